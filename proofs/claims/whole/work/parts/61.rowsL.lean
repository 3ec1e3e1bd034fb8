set_option maxRecDepth 20000 in
theorem ggL_law_X7_init : GoodIn wsL_law wsX7_init := goodIn_r _ [8, 9, 10, 11, 12, 13, 14, 15, 16, 17, 18, 19, 20, 21, 22, 23, 24, 25, 26, 27, 28, 29, 30, 31, 32, 33, 34, 35, 36, 37, 38, 39, 40, 41, 42, 43, 44, 45, 46, 47, 48, 49, 50, 51, 52, 53, 54, 55, 56, 57, 58, 59, 60, 61, 62, 63, 64, 65, 66, 67, 68, 69, 70, 71, 72, 73, 74, 75, 633, 634, 601, 602, 603, 604, 635, 636, 637, 638, 639, 640, 641, 642, 643, 644, 645, 646, 647, 648, 649, 650, 651, 652, 653, 654, 655, 656, 657, 658, 659, 660, 661, 662] (by decide +kernel) (by decide +kernel)
set_option maxRecDepth 20000 in
theorem gL_law_X7_init : GoodIn wsL_law (wsX7_init) := ggL_law_X7_init
set_option maxRecDepth 20000 in
theorem ggL_law_X8_init : GoodIn wsL_law wsX8_init := goodIn_r _ [78, 79, 10, 11, 31, 80, 81, 82, 83, 84, 85, 86, 87, 88, 89, 90, 91, 92, 93, 94, 95, 96, 97, 98, 99, 605, 606, 607, 608, 609, 610, 611, 612, 613, 614, 615, 616, 617, 618, 619, 620, 621, 622, 623, 624, 625, 626, 627, 628, 629, 630, 631, 632] (by decide +kernel) (by decide +kernel)
set_option maxRecDepth 20000 in
theorem gL_law_X8_init : GoodIn wsL_law (wsX8_init) := ggL_law_X8_init
set_option maxRecDepth 20000 in
theorem ggL_law_X7_feed : GoodIn wsL_law wsX7_feed := goodIn_r _ [103, 15, 104, 105, 106, 14, 107, 108, 32, 109, 110, 111, 112, 601, 602, 603, 604, 633, 634] (by decide +kernel) (by decide +kernel)
set_option maxRecDepth 20000 in
theorem gL_law_X7_feed : GoodIn wsL_law (wsV RL 13 RX7 yX7_feed wsX7_feed) := goodIn_app (goodIn_of _ (by decide +kernel)) ggL_law_X7_feed
set_option maxRecDepth 20000 in
theorem ggL_law_X8_feed : GoodIn wsL_law wsX8_feed := goodIn_r _ [116, 117, 80, 605, 606, 607, 608, 609, 610, 611, 612, 613, 614, 615, 616, 617, 618, 619, 620, 621, 622, 623, 624, 625, 626, 627, 628, 629, 630, 631, 632] (by decide +kernel) (by decide +kernel)
set_option maxRecDepth 20000 in
theorem gL_law_X8_feed : GoodIn wsL_law (wsV RL 17 RX8 yX8_feed wsX8_feed) := goodIn_app (goodIn_of _ (by decide +kernel)) ggL_law_X8_feed
set_option maxRecDepth 20000 in
theorem ggL_law_X7_end : GoodIn wsL_law wsX7_end := goodIn_r _ [121, 19, 15, 23, 27, 122, 123, 124, 18, 125, 36, 126, 127, 128, 129, 110, 111, 14, 112, 108, 130, 131, 132, 133, 134, 135, 136, 137, 32, 138, 139, 140, 22, 141, 142, 143, 144, 145, 146, 45, 147, 148, 149, 150, 151, 152, 153, 154, 155, 156, 157, 158, 159, 160, 161, 162, 40, 163, 164, 165, 166, 167, 168, 169, 170, 171, 172, 173, 174, 175, 41, 42, 43, 44, 176, 177, 178, 179, 180, 181, 182, 183, 184, 185, 186, 187, 188, 189, 190, 191, 192, 193, 194, 195, 196, 197, 198, 199, 200, 201, 202, 203, 204, 205, 206, 207, 208, 209, 210, 26, 211, 212, 213, 59, 54, 63, 214, 215, 216, 217, 49, 218, 219, 220, 58, 221, 222, 70, 223, 224, 225, 226, 227, 228, 229, 230, 231, 232, 233, 234, 235, 236, 50, 53, 51, 55, 237, 238, 239, 240, 241, 52, 242, 243, 244, 245, 246, 247, 248, 249, 250, 251, 252, 67, 68, 69, 253, 254, 255, 256, 257, 258, 259, 260, 261, 262, 263, 264, 265, 266, 267, 268, 269, 270, 271, 272, 273, 274, 275, 276, 277, 278, 279, 280, 281, 282, 283, 284, 285, 286, 287, 288, 289, 290, 291, 292, 293, 294, 295, 296, 297, 298, 299, 300, 301, 302, 303, 304, 305, 306, 307, 308, 62, 309, 310, 74, 75, 311, 312, 313, 314, 315, 316, 317, 318, 319, 320, 321, 322, 323, 324, 325, 326, 327, 328, 329, 330, 331, 332, 333, 334, 335, 336, 337, 338, 339, 340, 341, 342, 343, 344, 345, 346, 347, 348, 349, 350, 351, 352, 353, 354, 355, 356, 357, 358, 359, 360, 361, 362, 363, 364, 365, 366, 367, 368, 369, 370, 371, 372, 373, 374, 375, 376, 377, 378, 379, 380, 381, 382, 383, 384, 385, 386, 387, 388, 389, 390, 391, 392, 393, 394, 395, 396, 397, 398, 399, 400, 401, 402, 403, 404, 601, 602, 603, 604, 635, 636, 637, 638, 633, 634, 639, 640, 641, 642, 643, 644, 645, 646, 647, 648, 649, 650, 651, 652, 653, 654, 655, 656, 657, 658, 659, 660, 661, 662] (by decide +kernel) (by decide +kernel)
set_option maxRecDepth 20000 in
theorem gL_law_X7_end : GoodIn wsL_law (wsV RL 18 RX7 yX7_end wsX7_end) := goodIn_app (goodIn_of _ (by decide +kernel)) ggL_law_X7_end
set_option maxRecDepth 20000 in
theorem ggL_law_X8_end_1_s0 : GoodIn wsL_law [Cond.fieldLink RX8 68 "CodeImagesModel" "taped" "I", Cond.fieldLink RX8 78 "CodeImagesModel" "size" "I", Cond.fieldLink RX8 13 "CodeImagesModel" "image" "[I", Cond.fieldLink RX8 9 "CodeImagesModel" "tape" "[I", Cond.fieldLink RX8 16 "CodeImagesModel" "begins" "[Z", Cond.fieldLink RX8 75 "CodeImagesModel" "place" "I", Cond.fieldLink RX8 72 "CodeImagesModel" "wrong" "I", Cond.fieldLink RX8 117 "CodeImagesModel" "instructions" "I", Cond.fieldLink RX8 142 "CodeImagesModel" "there" "Z", Cond.fieldLink RX8 123 "CodeImagesModel" "methods" "I", Cond.methodLink RX8 146 yX8_readAll, Cond.instanceMethod yX8_readAll, Cond.selects RX8 yX8_readAll yX8_readAll, Cond.initialized RX8] := goodIn_r _ [117, 409, 81, 80, 83, 410, 411, 412, 413, 414, 415, 416, 417, 5] (by decide +kernel) (by decide +kernel)
set_option maxRecDepth 20000 in
theorem ggL_law_X8_end_1_s1 : GoodIn wsL_law [Cond.code yX8_readAll cX8_readAll 2 (some .boolean)] := goodIn_co (List.mem_of_getElem? (i := 418) rfl) (Or.inl rfl) (fun _ h => absurd h List.not_mem_nil)
set_option maxRecDepth 20000 in
theorem ggL_law_X8_end_1_s2 : GoodIn wsL_law [Cond.fieldLink RX8 89 "CodeImagesModel" "classes" "I", Cond.fieldLink RX8 35 "CodeImagesModel" "throwns" "[I", Cond.fieldLink RX8 38 "CodeImagesModel" "owners" "[I", Cond.fieldLink RX8 41 "CodeImagesModel" "parameterCounts" "[I", Cond.fieldLink RX8 129 "CodeImagesModel" "first" "I", Cond.methodLink RX8 92 yX8_over, Cond.instanceMethod yX8_over, Cond.selects RX8 yX8_over yX8_over] := goodIn_r _ [419, 89, 90, 91, 420, 421, 422, 423] (by decide +kernel) (by decide +kernel)
set_option maxRecDepth 20000 in
theorem ggL_law_X8_end_1_s3 : GoodIn wsL_law [Cond.code yX8_over cX8_over 3 (some .boolean)] := goodIn_co (List.mem_of_getElem? (i := 424) rfl) (Or.inl rfl) (fun _ h => absurd h List.not_mem_nil)
set_option maxRecDepth 20000 in
theorem ggL_law_X8_end_1 : GoodIn wsL_law wsX8_end_r1 := goodIn_app ggL_law_X8_end_1_s0 (goodIn_app ggL_law_X8_end_1_s1 (goodIn_app ggL_law_X8_end_1_s2 ggL_law_X8_end_1_s3))
set_option maxRecDepth 20000 in
theorem ggL_law_X8_end_2_s0 : GoodIn wsL_law [Cond.methodLink RX8 81 yX8_here, Cond.instanceMethod yX8_here, Cond.selects RX8 yX8_here yX8_here] := goodIn_r _ [425, 426, 427] (by decide +kernel) (by decide +kernel)
set_option maxRecDepth 20000 in
theorem ggL_law_X8_end_2_s1 : GoodIn wsL_law [Cond.code yX8_here cX8_here 1 (some .int)] := goodIn_co (List.mem_of_getElem? (i := 428) rfl) (Or.inl rfl) (fun _ h => absurd h List.not_mem_nil)
set_option maxRecDepth 20000 in
theorem ggL_law_X8_end_2_s2 : GoodIn wsL_law [Cond.methodLink RX8 85 yX8_bad, Cond.instanceMethod yX8_bad, Cond.selects RX8 yX8_bad yX8_bad] := goodIn_r _ [429, 430, 431] (by decide +kernel) (by decide +kernel)
set_option maxRecDepth 20000 in
theorem ggL_law_X8_end_2_s3 : GoodIn wsL_law [Cond.code yX8_bad cX8_bad 2 (some .boolean)] := goodIn_co (List.mem_of_getElem? (i := 432) rfl) (Or.inl rfl) (fun _ h => absurd h List.not_mem_nil)
set_option maxRecDepth 20000 in
theorem ggL_law_X8_end_2_s4 : GoodIn wsL_law [Cond.methodLink RX8 96 yX8_last, Cond.instanceMethod yX8_last, Cond.selects RX8 yX8_last yX8_last] := goodIn_r _ [433, 434, 435] (by decide +kernel) (by decide +kernel)
set_option maxRecDepth 20000 in
theorem ggL_law_X8_end_2_s5 : GoodIn wsL_law [Cond.code yX8_last cX8_last 1 (some .int)] := goodIn_co (List.mem_of_getElem? (i := 436) rfl) (Or.inl rfl) (fun _ h => absurd h List.not_mem_nil)
set_option maxRecDepth 20000 in
theorem ggL_law_X8_end_2_s6 : GoodIn wsL_law [Cond.methodLink RX8 120 yX8_readClass, Cond.instanceMethod yX8_readClass, Cond.selects RX8 yX8_readClass yX8_readClass] := goodIn_r _ [437, 438, 439] (by decide +kernel) (by decide +kernel)
set_option maxRecDepth 20000 in
theorem ggL_law_X8_end_2_s7 : GoodIn wsL_law [Cond.code yX8_readClass cX8_readClass 8 (some .boolean)] := goodIn_co (List.mem_of_getElem? (i := 440) rfl) (Or.inl rfl) (fun _ h => absurd h List.not_mem_nil)
set_option maxRecDepth 20000 in
theorem ggL_law_X8_end_2_s8 : GoodIn wsL_law [Cond.fieldLink RX8 20 "CodeImagesModel" "uppers" "[I", Cond.fieldLink RX8 23 "CodeImagesModel" "fieldCounts" "[I", Cond.fieldLink RX8 26 "CodeImagesModel" "fieldTypes" "[I", Cond.fieldLink RX8 29 "CodeImagesModel" "slots" "[I", Cond.fieldLink RX8 32 "CodeImagesModel" "slotPlaces" "[I", Cond.methodLink RX8 99 yX8_overType, Cond.instanceMethod yX8_overType, Cond.selects RX8 yX8_overType yX8_overType] := goodIn_r _ [84, 85, 86, 87, 88, 441, 442, 443] (by decide +kernel) (by decide +kernel)
set_option maxRecDepth 20000 in
theorem ggL_law_X8_end_2 : GoodIn wsL_law wsX8_end_r2 := goodIn_app ggL_law_X8_end_2_s0 (goodIn_app ggL_law_X8_end_2_s1 (goodIn_app ggL_law_X8_end_2_s2 (goodIn_app ggL_law_X8_end_2_s3 (goodIn_app ggL_law_X8_end_2_s4 (goodIn_app ggL_law_X8_end_2_s5 (goodIn_app ggL_law_X8_end_2_s6 (goodIn_app ggL_law_X8_end_2_s7 ggL_law_X8_end_2_s8)))))))
set_option maxRecDepth 20000 in
theorem ggL_law_X8_end_3_s0 : GoodIn wsL_law [Cond.code yX8_overType cX8_overType 4 (some .boolean)] := goodIn_co (List.mem_of_getElem? (i := 444) rfl) (Or.inl rfl) (fun _ h => absurd h List.not_mem_nil)
set_option maxRecDepth 20000 in
theorem ggL_law_X8_end_3_s1 : GoodIn wsL_law [Cond.methodLink RX8 110 yX8_overClass, Cond.instanceMethod yX8_overClass, Cond.selects RX8 yX8_overClass yX8_overClass] := goodIn_r _ [445, 446, 447] (by decide +kernel) (by decide +kernel)
set_option maxRecDepth 20000 in
theorem ggL_law_X8_end_3_s2 : GoodIn wsL_law [Cond.code yX8_overClass cX8_overClass 1 (some .boolean)] := goodIn_co (List.mem_of_getElem? (i := 448) rfl) (Or.inl rfl) (fun _ h => absurd h List.not_mem_nil)
set_option maxRecDepth 20000 in
theorem ggL_law_X8_end_3_s3 : GoodIn wsL_law [Cond.methodLink RX8 126 yX8_readMethod, Cond.instanceMethod yX8_readMethod, Cond.selects RX8 yX8_readMethod yX8_readMethod] := goodIn_r _ [449, 450, 451] (by decide +kernel) (by decide +kernel)
set_option maxRecDepth 20000 in
theorem ggL_law_X8_end_3_s4 : GoodIn wsL_law [Cond.code yX8_readMethod cX8_readMethod 7 (some .boolean)] := goodIn_co (List.mem_of_getElem? (i := 452) rfl) (Or.inl rfl) (fun _ h => absurd h List.not_mem_nil)
set_option maxRecDepth 20000 in
theorem ggL_law_X8_end_3_s5 : GoodIn wsL_law [Cond.fieldLink RX8 44 "CodeImagesModel" "parameterTypes" "[I", Cond.fieldLink RX8 47 "CodeImagesModel" "gives" "[I", Cond.fieldLink RX8 50 "CodeImagesModel" "locals" "[I", Cond.fieldLink RX8 53 "CodeImagesModel" "stacks" "[I", Cond.fieldLink RX8 59 "CodeImagesModel" "codeSizes" "[I", Cond.fieldLink RX8 56 "CodeImagesModel" "codeAt" "[I", Cond.fieldLink RX8 62 "CodeImagesModel" "handlerCounts" "[I", Cond.fieldLink RX8 65 "CodeImagesModel" "handlerAt" "[I", Cond.methodLink RX8 103 yX8_two, Cond.instanceMethod yX8_two, Cond.selects RX8 yX8_two yX8_two] := goodIn_r _ [92, 93, 94, 95, 97, 96, 98, 99, 453, 454, 455] (by decide +kernel) (by decide +kernel)
set_option maxRecDepth 20000 in
theorem ggL_law_X8_end_3_s6 : GoodIn wsL_law [Cond.code yX8_two cX8_two 2 (some .int)] := goodIn_co (List.mem_of_getElem? (i := 456) rfl) (Or.inl rfl) (fun _ h => absurd h List.not_mem_nil)
set_option maxRecDepth 20000 in
theorem ggL_law_X8_end_3_s7 : GoodIn wsL_law [Cond.methodLink RX8 107 yX8_readInstruction, Cond.instanceMethod yX8_readInstruction, Cond.selects RX8 yX8_readInstruction yX8_readInstruction] := goodIn_r _ [457, 458, 459] (by decide +kernel) (by decide +kernel)
set_option maxRecDepth 20000 in
theorem ggL_law_X8_end_3 : GoodIn wsL_law wsX8_end_r3 := goodIn_app ggL_law_X8_end_3_s0 (goodIn_app ggL_law_X8_end_3_s1 (goodIn_app ggL_law_X8_end_3_s2 (goodIn_app ggL_law_X8_end_3_s3 (goodIn_app ggL_law_X8_end_3_s4 (goodIn_app ggL_law_X8_end_3_s5 (goodIn_app ggL_law_X8_end_3_s6 ggL_law_X8_end_3_s7))))))
set_option maxRecDepth 20000 in
theorem ggL_law_X8_end_4_s0 : GoodIn wsL_law [Cond.code yX8_readInstruction cX8_readInstruction 8 (some .boolean)] := goodIn_co (List.mem_of_getElem? (i := 460) rfl) (Or.inl rfl) (fun _ h => absurd h List.not_mem_nil)
set_option maxRecDepth 20000 in
theorem ggL_law_X8_end_4_s1 : GoodIn wsL_law [Cond.methodLink RX8 114 yX8_wide, Cond.static yX8_wide] := goodIn_r _ [461, 462] (by decide +kernel) (by decide +kernel)
set_option maxRecDepth 20000 in
theorem ggL_law_X8_end_4_s2 : GoodIn wsL_law [Cond.code yX8_wide cX8_wide 1 (some .int)] := goodIn_co (List.mem_of_getElem? (i := 463) rfl) (Or.inl rfl) (fun _ h => absurd h List.not_mem_nil)
set_option maxRecDepth 20000 in
theorem ggL_law_X8_end_4_s3 : GoodIn wsL_law [Cond.methodLink RX8 149 yX8_checkSlots, Cond.instanceMethod yX8_checkSlots, Cond.selects RX8 yX8_checkSlots yX8_checkSlots] := goodIn_r _ [464, 465, 466] (by decide +kernel) (by decide +kernel)
set_option maxRecDepth 20000 in
theorem ggL_law_X8_end_4_s4 : GoodIn wsL_law [Cond.code yX8_checkSlots cX8_checkSlots 6 none] := goodIn_co (List.mem_of_getElem? (i := 467) rfl) (Or.inl rfl) (fun _ h => absurd h List.not_mem_nil)
set_option maxRecDepth 20000 in
theorem ggL_law_X8_end_4_s5 : GoodIn wsL_law [Cond.methodLink RX8 132 yX8_isLike, Cond.instanceMethod yX8_isLike, Cond.selects RX8 yX8_isLike yX8_isLike] := goodIn_r _ [468, 469, 470] (by decide +kernel) (by decide +kernel)
set_option maxRecDepth 20000 in
theorem ggL_law_X8_end_4_s6 : GoodIn wsL_law [Cond.code yX8_isLike cX8_isLike 5 (some .boolean)] := goodIn_co (List.mem_of_getElem? (i := 471) rfl) (Or.inl rfl) (fun _ h => absurd h List.not_mem_nil)
set_option maxRecDepth 20000 in
theorem ggL_law_X8_end_4_s7 : GoodIn wsL_law [Cond.methodLink RX8 135 yX8_note, Cond.instanceMethod yX8_note, Cond.selects RX8 yX8_note yX8_note] := goodIn_r _ [472, 473, 474] (by decide +kernel) (by decide +kernel)
set_option maxRecDepth 20000 in
theorem ggL_law_X8_end_4_s8 : GoodIn wsL_law [Cond.code yX8_note cX8_note 3 none] := goodIn_co (List.mem_of_getElem? (i := 475) rfl) (Or.inl rfl) (fun _ h => absurd h List.not_mem_nil)
set_option maxRecDepth 20000 in
theorem ggL_law_X8_end_4_s9 : GoodIn wsL_law [Cond.methodLink RX8 152 yX8_checkCode, Cond.instanceMethod yX8_checkCode, Cond.selects RX8 yX8_checkCode yX8_checkCode] := goodIn_r _ [476, 477, 478] (by decide +kernel) (by decide +kernel)
set_option maxRecDepth 20000 in
theorem ggL_law_X8_end_4_s10 : GoodIn wsL_law [Cond.code yX8_checkCode cX8_checkCode 5 none] := goodIn_co (List.mem_of_getElem? (i := 479) rfl) (Or.inl rfl) (fun _ h => absurd h List.not_mem_nil)
set_option maxRecDepth 20000 in
theorem ggL_law_X8_end_4_s11 : GoodIn wsL_law [Cond.methodLink RX8 139 yX8_isBegin, Cond.instanceMethod yX8_isBegin, Cond.selects RX8 yX8_isBegin yX8_isBegin] := goodIn_r _ [480, 481, 482] (by decide +kernel) (by decide +kernel)
set_option maxRecDepth 20000 in
theorem ggL_law_X8_end_4_s12 : GoodIn wsL_law [Cond.code yX8_isBegin cX8_isBegin 3 (some .boolean)] := goodIn_co (List.mem_of_getElem? (i := 483) rfl) (Or.inl rfl) (fun _ h => absurd h List.not_mem_nil)
set_option maxRecDepth 20000 in
theorem ggL_law_X8_end_4 : GoodIn wsL_law wsX8_end_r4 := goodIn_app ggL_law_X8_end_4_s0 (goodIn_app ggL_law_X8_end_4_s1 (goodIn_app ggL_law_X8_end_4_s2 (goodIn_app ggL_law_X8_end_4_s3 (goodIn_app ggL_law_X8_end_4_s4 (goodIn_app ggL_law_X8_end_4_s5 (goodIn_app ggL_law_X8_end_4_s6 (goodIn_app ggL_law_X8_end_4_s7 (goodIn_app ggL_law_X8_end_4_s8 (goodIn_app ggL_law_X8_end_4_s9 (goodIn_app ggL_law_X8_end_4_s10 (goodIn_app ggL_law_X8_end_4_s11 ggL_law_X8_end_4_s12)))))))))))
set_option maxRecDepth 20000 in
theorem ggL_law_X8_end_0 : GoodIn wsL_law wsX80 := goodIn_r _ [605, 606, 607, 608, 609, 610, 611, 612, 613, 614, 615, 616, 617, 618, 619, 620, 621, 622, 623, 624, 625, 626, 627, 628, 629, 630, 631, 632] (by decide +kernel) (by decide +kernel)
set_option maxRecDepth 20000 in
theorem ggL_law_X8_end : GoodIn wsL_law wsX8_end := goodIn_co (List.mem_of_getElem? (i := 408) rfl) (Or.inl rfl) (goodIn_app (goodIn_app ggL_law_X8_end_1 (goodIn_app ggL_law_X8_end_2 (goodIn_app ggL_law_X8_end_3 ggL_law_X8_end_4))) ggL_law_X8_end_0)
set_option maxRecDepth 20000 in
theorem gL_law_X8_end : GoodIn wsL_law (wsV RL 22 RX8 yX8_end wsX8_end) := goodIn_app (goodIn_of _ (by decide +kernel)) ggL_law_X8_end
