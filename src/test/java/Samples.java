/** Images that the tests of several promises share. */
final class Samples {
    /** The instructions of method 0 of the full image, each with its operands. */
    static final int[][] CODE = {
        {0, 0x80, 0x00, 0x00, 0x01}, {1}, {2, 0}, {3, 2}, {4}, {5}, {6},
        {7}, {8}, {9}, {10}, {11}, {12}, {13}, {14}, {15}, {16}, {17}, {18},
        {19, 0, 0, 0}, {20, 5, 0, 5}, {21, 0, 6}, {22, 0, 8}, {23, 0, 10}, {24, 0, 11}, {25, 0, 76},
        {26, 2}, {27, 1, 3}, {28, 0, 1}, {29, 0}, {30, 1}, {31, 0}, {31, 3},
        {32}, {33}, {34}, {35, 5}, {36, 1, 15}, {37}, {38}, {39}, {40}, {41},
    };

    private Samples() {
    }

    /** One class, one method of the one instruction RETURN. */
    static ImageBytes small() {
        ImageBytes image = new ImageBytes();
        image.put(1, 255, 0, 0).put(0, 0, 0, 0, 0).name("methods").put(1);
        image.name("owner").put(255).name("told").put(0).name("gives").put(255);
        image.name("locals").put(0).name("stack").put(0).name("length").pair(1).name("code").put(37);
        return image.name("handlers").put(0).name("first").put(0);
    }

    /** Three classes and six methods, in which every part and every instruction stands. */
    static ImageBytes full() {
        ImageBytes image = new ImageBytes();
        fullClasses(image);
        image.name("thrown0").put(2).name("thrown1").put(2, 0, 1).name("thrown4").put(0);
        image.name("methods").put(6);
        fullCode(image);
        image.name("m1").put(0).name("m1told").put(2).name("m1p1").put(0).name("m1p2").put(64);
        image.name("m1gives").put(0).name("m1locals").put(3).name("m1stack").put(9).name("m1length").pair(1);
        image.put(38).put(0);
        image.name("m2").put(0, 0, 255, 1, 0).pair(1).put(37).put(0);
        image.name("m3").put(1).name("m3told").put(2).name("m3p1").put(0).name("m3p2").put(64);
        image.name("m3gives").put(0).name("m3locals").put(4, 1).pair(2).put(1, 38).name("m3handlers").put(0);
        image.name("m4").put(1, 1, 1).name("m4gives").put(66, 2, 2).pair(3);
        image.put(25, 0, 0).name("m4handlers").put(1).name("m4from").pair(0).name("m4to").pair(3);
        image.put(0).name("m4place").pair(0);
        image.name("m5").put(255, 7, 0, 1, 2, 3, 64, 65, 67).put(255, 12, 0).pair(1).put(37, 0);
        return image.name("first").put(0);
    }

    private static void fullClasses(ImageBytes image) {
        image.name("classes").put(3);
        image.name("upper0").put(255).name("fields0").put(2).name("type00").put(0).name("type01").put(64);
        image.name("slots0").put(2).name("slot00").put(0).name("slotm00").put(1);
        image.name("slot01").put(15).name("slotm01").put(2);
        image.name("upper1").put(0).name("fields1").put(2).name("type10").put(1).name("type11").put(67);
        image.name("slots1").put(2).name("slot10").put(0).name("slotm10").put(3);
        image.name("slot11").put(4).name("slotm11").put(4);
        image.name("upper2").put(255).name("fields2").put(0).name("slots2").put(0);
    }

    private static void fullCode(ImageBytes image) {
        int length = 0;
        for (int[] one : CODE) {
            length += one.length;
        }
        image.name("m0").put(255).name("m0told").put(0).name("m0gives").put(255);
        image.name("m0locals").put(3).name("m0stack").put(9).name("m0length").pair(length);
        for (int i = 0; i < CODE.length; i++) {
            image.name("i" + i).put(CODE[i]);
        }
        image.name("m0handlers").put(2);
        image.name("h0from").pair(0).name("h0to").pair(length).name("h0class").put(2).name("h0place").pair(5);
        image.name("h1from").pair(5).name("h1to").pair(6).name("h1class").put(0).name("h1place").pair(0);
    }

    /** The place in method 0's code at which an instruction of CODE begins. */
    static int placeOf(int instruction) {
        int place = 0;
        for (int i = 0; i < instruction; i++) {
            place += CODE[i].length;
        }
        return place;
    }
}
