set_option maxRecDepth 20000 in
theorem ggL_law_X7_count : GoodIn wsL_law wsX7_count := goodIn_r _ [487, 23, 27, 488, 230, 231, 22, 232, 146, 489, 490, 491, 26, 492, 213, 392, 393, 394, 395, 59, 396, 397, 398, 58, 399, 222, 493, 494, 495, 496, 49, 601, 602, 603, 604, 639, 640, 641, 642, 643, 644, 645, 646, 647, 648, 649, 650, 651, 652, 653, 654, 655, 656, 657, 658, 659, 660] (by decide +kernel) (by decide +kernel)
set_option maxRecDepth 20000 in
theorem gL_law_X7_count : GoodIn wsL_law (wsV RL 23 RX7 yX7_count wsX7_count) := goodIn_app (goodIn_of _ (by decide +kernel)) ggL_law_X7_count
set_option maxRecDepth 20000 in
theorem ggL_law_X8_count : GoodIn wsL_law wsX8_count := goodIn_r _ [500, 413, 419, 414, 412, 420, 605, 606, 607, 608, 609, 610, 611, 612, 613, 614, 615, 616, 617, 618, 619, 620, 621, 622, 623, 624, 625, 626, 627, 628, 629, 630, 631, 632] (by decide +kernel) (by decide +kernel)
set_option maxRecDepth 20000 in
theorem gL_law_X8_count : GoodIn wsL_law (wsV RL 26 RX8 yX8_count wsX8_count) := goodIn_app (goodIn_of _ (by decide +kernel)) ggL_law_X8_count
set_option maxRecDepth 20000 in
theorem ggL_law_X7_classOf : GoodIn wsL_law wsX7_classOf := goodIn_r _ [504, 23, 505, 349, 350, 22, 351, 40, 180, 181, 182, 183, 146, 506, 177, 178, 179, 41, 507, 185, 186, 187, 42, 176, 508, 189, 190, 191, 43, 601, 602, 603, 604, 639, 640, 641, 642, 643, 644, 645] (by decide +kernel) (by decide +kernel)
set_option maxRecDepth 20000 in
theorem gL_law_X7_classOf : GoodIn wsL_law (wsV RL 27 RX7 yX7_classOf wsX7_classOf) := goodIn_app (goodIn_of _ (by decide +kernel)) ggL_law_X7_classOf
set_option maxRecDepth 20000 in
theorem ggL_law_X8_classOf : GoodIn wsL_law wsX8_classOf := goodIn_r _ [512, 84, 85, 86, 87, 513, 514, 515, 5, 516, 413, 419, 605, 606, 607, 608, 609, 610, 611, 612, 613, 614, 615, 616, 617, 618, 619, 620, 621, 622, 623, 624, 625, 626, 627, 628, 629, 630, 631, 632] (by decide +kernel) (by decide +kernel)
set_option maxRecDepth 20000 in
theorem gL_law_X8_classOf : GoodIn wsL_law (wsV RL 31 RX8 yX8_classOf wsX8_classOf) := goodIn_app (goodIn_of _ (by decide +kernel)) ggL_law_X8_classOf
set_option maxRecDepth 20000 in
theorem ggL_law_X7_isA : GoodIn wsL_law wsX7_isA := goodIn_r _ [520, 23, 521, 522, 523, 22, 524, 40, 180, 181, 182, 183, 146, 601, 602, 603, 604, 639, 640, 641, 642, 643, 644, 645] (by decide +kernel) (by decide +kernel)
set_option maxRecDepth 20000 in
theorem gL_law_X7_isA : GoodIn wsL_law (wsV RL 32 RX7 yX7_isA wsX7_isA) := goodIn_app (goodIn_of _ (by decide +kernel)) ggL_law_X7_isA
set_option maxRecDepth 20000 in
theorem ggL_law_X8_isA : GoodIn wsL_law wsX8_isA := goodIn_r _ [528, 84, 513, 514, 515, 5, 516, 413, 419, 605, 606, 607, 608, 609, 610, 611, 612, 613, 614, 615, 616, 617, 618, 619, 620, 621, 622, 623, 624, 625, 626, 627, 628, 629, 630, 631, 632] (by decide +kernel) (by decide +kernel)
set_option maxRecDepth 20000 in
theorem gL_law_X8_isA : GoodIn wsL_law (wsV RL 36 RX8 yX8_isA wsX8_isA) := goodIn_app (goodIn_of _ (by decide +kernel)) ggL_law_X8_isA
set_option maxRecDepth 20000 in
theorem ggL_law_X7_method : GoodIn wsL_law wsX7_method := goodIn_r _ [532, 27, 19, 533, 534, 535, 26, 536, 50, 51, 53, 54, 55, 59, 63, 319, 320, 321, 322, 213, 356, 357, 358, 359, 52, 537, 378, 379, 58, 380, 68, 538, 365, 366, 367, 69, 539, 540, 541, 542, 67, 364, 368, 152, 153, 18, 154, 126, 36, 264, 265, 266, 267, 268, 269, 270, 271, 272, 273, 274, 275, 276, 277, 278, 279, 543, 386, 387, 62, 388, 75, 601, 602, 603, 604, 646, 647, 648, 649, 650, 651, 652, 653, 654, 655, 656, 657, 658, 659, 660, 635, 636, 637, 638, 661, 662] (by decide +kernel) (by decide +kernel)
set_option maxRecDepth 20000 in
theorem gL_law_X7_method : GoodIn wsL_law (wsV RL 37 RX7 yX7_method wsX7_method) := goodIn_app (goodIn_of _ (by decide +kernel)) ggL_law_X7_method
set_option maxRecDepth 20000 in
theorem ggL_law_X8_method : GoodIn wsL_law wsX8_method := goodIn_r _ [547, 90, 91, 92, 93, 94, 95, 97, 98, 548, 549, 550, 5, 551, 413, 414, 552, 553, 554, 555, 83, 96, 605, 606, 607, 608, 609, 610, 611, 612, 613, 614, 615, 616, 617, 618, 619, 620, 621, 622, 623, 624, 625, 626, 627, 628, 629, 630, 631, 632] (by decide +kernel) (by decide +kernel)
set_option maxRecDepth 20000 in
theorem gL_law_X8_method : GoodIn wsL_law (wsV RL 40 RX8 yX8_method wsX8_method) := goodIn_app (goodIn_of _ (by decide +kernel)) ggL_law_X8_method
set_option maxRecDepth 20000 in
theorem ggL_law_X7_handler : GoodIn wsL_law wsX7_handler := goodIn_r _ [559, 27, 19, 560, 561, 562, 26, 563, 63, 319, 320, 321, 322, 213, 564, 565, 566, 62, 567, 74, 385, 386, 387, 388, 75, 389, 370, 371, 18, 372, 151, 152, 153, 154, 126, 36, 568, 601, 602, 603, 604, 646, 647, 648, 649, 650, 651, 652, 653, 654, 655, 661, 662, 635, 636, 637, 638] (by decide +kernel) (by decide +kernel)
set_option maxRecDepth 20000 in
theorem gL_law_X7_handler : GoodIn wsL_law (wsV RL 41 RX7 yX7_handler wsX7_handler) := goodIn_app (goodIn_of _ (by decide +kernel)) ggL_law_X7_handler
set_option maxRecDepth 20000 in
theorem ggL_law_X8_handler : GoodIn wsL_law wsX8_handler := goodIn_r _ [572, 98, 99, 81, 548, 549, 550, 5, 551, 413, 414, 453, 454, 455, 456, 605, 606, 607, 608, 609, 610, 611, 612, 613, 614, 615, 616, 617, 618, 619, 620, 621, 622, 623, 624, 625, 626, 627, 628, 629, 630, 631, 632] (by decide +kernel) (by decide +kernel)
set_option maxRecDepth 20000 in
theorem gL_law_X8_handler : GoodIn wsL_law (wsV RL 44 RX8 yX8_handler wsX8_handler) := goodIn_app (goodIn_of _ (by decide +kernel)) ggL_law_X8_handler
set_option maxRecDepth 20000 in
theorem ggL_law_X7_instruction : GoodIn wsL_law wsX7_instruction := goodIn_r _ [576, 27, 19, 577, 578, 579, 26, 580, 59, 319, 320, 321, 322, 213, 581, 582, 583, 58, 584, 67, 373, 374, 375, 376, 70, 377, 378, 379, 380, 68, 368, 152, 153, 18, 154, 126, 36, 288, 269, 266, 270, 271, 293, 273, 274, 275, 369, 370, 371, 372, 151, 299, 277, 278, 279, 264, 265, 267, 268, 272, 276, 601, 602, 603, 604, 646, 647, 648, 649, 650, 651, 652, 653, 654, 655, 656, 657, 658, 659, 660, 635, 636, 637, 638] (by decide +kernel) (by decide +kernel)
set_option maxRecDepth 20000 in
theorem gL_law_X7_instruction : GoodIn wsL_law (wsV RL 45 RX7 yX7_instruction wsX7_instruction) := goodIn_app (goodIn_of _ (by decide +kernel)) ggL_law_X7_instruction
set_option maxRecDepth 20000 in
theorem ggL_law_X8_instruction : GoodIn wsL_law wsX8_instruction := goodIn_r _ [588, 96, 81, 548, 549, 550, 5, 551, 413, 414, 480, 481, 482, 483, 97, 83, 461, 462, 463, 453, 454, 455, 456, 605, 606, 607, 608, 609, 610, 611, 612, 613, 614, 615, 616, 617, 618, 619, 620, 621, 622, 623, 624, 625, 626, 627, 628, 629, 630, 631, 632] (by decide +kernel) (by decide +kernel)
set_option maxRecDepth 20000 in
theorem gL_law_X8_instruction : GoodIn wsL_law (wsV RL 48 RX8 yX8_instruction wsX8_instruction) := goodIn_app (goodIn_of _ (by decide +kernel)) ggL_law_X8_instruction
set_option maxRecDepth 20000 in
theorem ggL_law_X7_thrown : GoodIn wsL_law wsX7_thrown := goodIn_r _ [592, 23, 593, 594, 595, 22, 596, 146, 45, 601, 602, 603, 604, 639, 640, 641, 642, 643, 644, 645] (by decide +kernel) (by decide +kernel)
set_option maxRecDepth 20000 in
theorem gL_law_X7_thrown : GoodIn wsL_law (wsV RL 49 RX7 yX7_thrown wsX7_thrown) := goodIn_app (goodIn_of _ (by decide +kernel)) ggL_law_X7_thrown
set_option maxRecDepth 20000 in
theorem ggL_law_X8_thrown : GoodIn wsL_law wsX8_thrown := goodIn_r _ [600, 413, 89, 605, 606, 607, 608, 609, 610, 611, 612, 613, 614, 615, 616, 617, 618, 619, 620, 621, 622, 623, 624, 625, 626, 627, 628, 629, 630, 631, 632] (by decide +kernel) (by decide +kernel)
set_option maxRecDepth 20000 in
theorem gL_law_X8_thrown : GoodIn wsL_law (wsV RL 52 RX8 yX8_thrown wsX8_thrown) := goodIn_app (goodIn_of _ (by decide +kernel)) ggL_law_X8_thrown
