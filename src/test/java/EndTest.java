import java.util.Arrays;

/** Promise 3: end reads the image, or tells its first wrong byte. */
public final class EndTest {
    private static final Check CHECK = new Check("promise 3");

    public static void main(String[] args) {
        tapeAndImage();
        everyEnd(Samples.small());
        everyEnd(Samples.full());
        classesFirst();
        methodsFirst();
        codeFirst();
        limitsOfParts();
        lengthsOfCode();
        slotsSecond();
        codeSecond();
        handlersSecond();
        whichIsFirst();
        CHECK.end();
    }

    /** A byte of the full image that is wrong when it is changed. */
    private static void wrong(String name, int... changed) {
        ImageBytes image = Samples.full();
        wrongAt(image.at(name), name, changed);
    }

    /** The full image, changed from a named byte on, is wrong at another place. */
    private static void wrongAt(int place, String name, int... changed) {
        CodeImages x = new CodeImages();
        String call = name + " = " + Arrays.toString(changed) + ": end";
        CHECK.due(call, ImageBytes.load(x, Samples.full().with(name, changed)), -3 - place);
        CHECK.due(call + ", count(0)", x.count(0), 0);
    }

    private static void right(String name, int... changed) {
        CodeImages x = new CodeImages();
        String call = name + " = " + Arrays.toString(changed) + ": end";
        CHECK.due(call, ImageBytes.load(x, Samples.full().with(name, changed)), Samples.CODE.length + 6);
    }

    private static void tapeAndImage() {
        CodeImages x = new CodeImages();
        int[] small = Samples.small().bytes();
        ImageBytes.feed(x, small);
        CHECK.due("end(-1)", x.end(-1), -1);
        CHECK.due("end of a tape emptied", x.end(1), -1);
        CHECK.due("end of the full image", ImageBytes.load(x, Samples.full().bytes()), Samples.CODE.length + 6);
        CHECK.due("end(1) keeps the image", x.end(1), -1);
        CHECK.due("count(1)", x.count(1), 6);
        ImageBytes.feed(x, small);
        CHECK.due("end(Integer.MIN_VALUE)", x.end(Integer.MIN_VALUE), -1);
        CHECK.due("count(1)", x.count(1), 6);
        CHECK.due("feed", x.feed(0, 0, 0, 0, 0), 20);
        CHECK.due("instruction of the image, not of the tape", x.instruction(0, 0, 1), 0x80000001);
        CHECK.due("end(Integer.MAX_VALUE)", x.end(Integer.MAX_VALUE), -1);
        CHECK.due("count(2)", x.count(2), Samples.CODE.length + 6);
        CHECK.due("end of another image", ImageBytes.load(x, small), 1);
        CHECK.due("count(1)", x.count(1), 1);
        CHECK.due("instruction(0, 5, 0)", x.instruction(0, 5, 0), -1);
        CHECK.due("end(0)", x.end(0), -3);
        NoImage.check(CHECK, x);
        CHECK.due("end of an image again", ImageBytes.load(x, Samples.full().bytes()), Samples.CODE.length + 6);
        CHECK.due("end with a wrong byte", ImageBytes.load(x, Samples.full().with("first", 1)),
            -3 - Samples.full().at("first"));
        NoImage.check(CHECK, x);
    }

    /** Cut anywhere, the end is wrong; behind the image, one more byte is. */
    private static void everyEnd(ImageBytes image) {
        int[] bytes = image.bytes();
        for (int n = 0; n < bytes.length; n++) {
            CHECK.due("cut at " + n, ImageBytes.load(new CodeImages(), Arrays.copyOf(bytes, n)), -3 - n);
        }
        for (int more = 1; more < 30; more++) {
            int[] longer = Arrays.copyOf(bytes, bytes.length + more);
            CHECK.due(more + " bytes more", ImageBytes.load(new CodeImages(), longer), -3 - bytes.length);
        }
    }

    private static void classesFirst() {
        wrong("classes", 0);
        wrong("classes", 33);
        wrong("classes", 255);
        wrong("upper0", 0);
        wrong("upper0", 254);
        wrong("upper1", 1);
        wrong("upper2", 2);
        right("upper2", 0);
        right("upper2", 1);
        wrong("fields0", 16);
        wrong("fields1", 14);
        wrong("fields1", 255);
        for (int type : new int[] {4, 63, 68, 255}) {
            wrong("type00", type);
            wrong("type11", type);
        }
        for (int type : new int[] {0, 1, 2, 3, 64, 65, 66, 67}) {
            right("type01", type);
        }
        wrong("slots0", 17);
        wrong("slot00", 16);
        right("slot00", 14);
        wrong("slot01", 0);
        wrong("slot01", 16);
        wrongAt(Samples.full().at("slot01"), "slot00", 15);
        wrong("thrown0", 3);
        wrong("thrown1", 255);
        wrong("thrown4", 3);
        right("thrown4", 2);
    }

    private static void methodsFirst() {
        wrong("methods", 0);
        wrong("methods", 65);
        wrong("m0", 3);
        wrong("m1", 254);
        wrong("m0told", 8);
        wrong("m1p1", 4);
        wrong("m1p2", 255);
        wrong("m1gives", 63);
        wrong("m1gives", 68);
        wrong("m1gives", 254);
        right("m4gives", 255);
        wrong("m1locals", 2);
        wrong("m1locals", 13);
        wrong("m1locals", 255);
        wrongAt(Samples.full().at("m1stack"), "m1locals", 4);
        wrong("m1stack", 10);
        wrong("m1stack", 255);
        wrong("m0handlers", 9);
        wrong("h0class", 3);
        wrong("h1class", 255);
        wrong("first", 6);
        wrong("first", 255);
        wrong("first", 1);
        wrong("first", 2);
        wrong("first", 5);
    }

    private static void codeFirst() {
        int high = Samples.full().at("m1length");
        wrongAt(high + 1, "m1length", 0, 0);
        wrongAt(high + 1, "m1length", 3, 233);
        wrongAt(high, "m1length", 4, 0);
        wrongAt(high, "m1length", 255, 255);
        for (int code = 42; code < 256; code++) {
            wrong("i1", code);
        }
        for (int i = 0; i < Samples.CODE.length; i++) {
            cutInstruction(i);
        }
        operand(2, 1, 3);
        operand(3, 1, 255);
        operand(19, 1, 6);
        operand(20, 1, 255);
        operand(26, 1, 3);
        operand(27, 1, 3);
        operand(27, 2, 4);
        operand(28, 2, 2);
        operand(29, 1, 3);
        operand(30, 1, 255);
        operand(31, 1, 4);
        operand(32, 1, 64);
        operand(37, 1, 3);
        operand(37, 2, 1);
        operand(37, 2, 16);
        operand(37, 2, 255);
        right("i37", 36, 1, 0);
        right("i37", 36, 1, 4);
        wrongAt(Samples.full().at("i37") + 2, "i37", 36, 0, 4);
        wrongAt(Samples.full().at("i37") + 2, "i37", 36, 2, 0);
        wrongAt(Samples.full().at("i27") + 2, "i27", 27, 2, 0);
    }

    /** An operand's byte of an instruction of CODE that is wrong as it is read. */
    private static void operand(int instruction, int which, int changed) {
        int[] bytes = Samples.full().bytes();
        int place = Samples.full().at("i" + instruction) + which;
        bytes[place] = changed;
        CHECK.due("operand " + which + " of instruction " + instruction + " = " + changed + ": end",
            ImageBytes.load(new CodeImages(), bytes), -3 - place);
    }

    /** The code ends within an instruction: its first byte is wrong, whatever its operands are. */
    private static void cutInstruction(int i) {
        ImageBytes image = Samples.full();
        int start = Samples.placeOf(i);
        for (int bytes = 1; bytes < Samples.CODE[i].length; bytes++) {
            int length = start + bytes;
            wrongAt(image.at("i" + i), "m0length", length >> 8, length);
            int[] changed = image.with("m0length", length >> 8, length);
            changed[image.at("i" + i) + 1] = 255;
            CHECK.due("cut instruction " + i + " with a wrong operand",
                ImageBytes.load(new CodeImages(), changed), -3 - image.at("i" + i));
        }
    }

    private static void limitsOfParts() {
        ImageBytes most = new ImageBytes();
        most.put(32);
        for (int c = 0; c < 32; c++) {
            most.put(c == 0 ? 255 : c - 1).put(c == 0 ? 14 : c == 1 ? 1 : 0);
            for (int f = 0; f < (c == 0 ? 14 : c == 1 ? 1 : 0); f++) {
                most.put(f % 2 == 0 ? 32 : 96);
            }
            most.put(c == 0 ? 16 : 0);
            for (int s = 0; c == 0 && s < 16; s++) {
                most.put(s, 1 + s);
            }
        }
        most.put(31, 31, 31, 31, 31).put(64);
        most.put(255, 0, 255, 12, 0).pair(1000);
        for (int i = 0; i < 500; i++) {
            most.put(2, 11);
        }
        most.put(8);
        for (int h = 0; h < 8; h++) {
            most.pair(998).pair(1000).put(31).pair(998);
        }
        for (int m = 1; m < 64; m++) {
            most.put(0, 7, 0, 0, 0, 0, 0, 0, 0, 96, 8, 4).pair(1).put(38, 0);
        }
        most.put(0);
        CodeImages x = new CodeImages();
        CHECK.due("the most of everything: end", ImageBytes.load(x, most.bytes()), 563);
        CHECK.due("count(0)", x.count(0), 32);
        CHECK.due("count(1)", x.count(1), 64);
        CHECK.due("classOf(31, 1, 0)", x.classOf(31, 1, 0), 15);
        CHECK.due("classOf(31, 2, 13)", x.classOf(31, 2, 13), 96);
        CHECK.due("classOf(31, 2, 14)", x.classOf(31, 2, 14), 32);
        CHECK.due("classOf(31, 3, 15)", x.classOf(31, 3, 15), 16);
        CHECK.due("isA(31, 0)", x.isA(31, 0), true);
        CHECK.due("method(63, 2, 7)", x.method(63, 2, 7), 0);
        CHECK.due("method(0, 8, 499)", x.method(0, 8, 499), 998);
        CHECK.due("handler(0, 7, 1)", x.handler(0, 7, 1), 1000);
    }

    /** A method of as many RETURNs as its code has bytes, about the edges of both bytes of the length. */
    private static void lengthsOfCode() {
        for (int length : new int[] {1, 2, 127, 128, 255, 256, 257, 511, 512, 767, 768, 999, 1000}) {
            ImageBytes image = new ImageBytes();
            image.put(1, 255, 0, 0).put(0, 0, 0, 0, 0).put(1).put(255, 0, 255, 0, 0).pair(length);
            for (int i = 0; i < length; i++) {
                image.put(37);
            }
            CodeImages x = new CodeImages();
            CHECK.due("code of " + length + ": end", ImageBytes.load(x, image.put(0, 0).bytes()), length);
            CHECK.due("thrown(4) of one class", x.thrown(4), 0);
        }
    }

    private static void slotsSecond() {
        wrong("slotm00", 6);
        wrong("slotm00", 255);
        wrong("slotm01", 0);
        wrong("slotm01", 3);
        wrong("slotm10", 1);
        wrong("slotm10", 4);
        wrong("slotm11", 5);
        right("slotm11", 3);
        int below = Samples.full().at("slotm10");
        wrongAt(below, "m3gives", 255);
        wrongAt(below, "m3gives", 64);
        wrongAt(below, "m3p1", 1);
        wrongAt(below, "m3p2", 0);
        wrongAt(below, "m1gives", 255);
        wrongAt(below, "m1p2", 65);
        wrongAt(below, "m3", 0);
        wrongAt(Samples.full().at("slotm00"), "m1", 255);
        right("m3gives", 0);
        fewerParameters();
        slotFarAbove();
    }

    /** A method that overrides one with fewer parameters, and with more. */
    private static void fewerParameters() {
        for (int told = 0; told < 3; told++) {
            ImageBytes image = new ImageBytes();
            image.put(2, 255, 0, 1, 3, 1).put(0, 0, 1, 3).name("below").put(2).put(0, 0, 0, 0, 0).put(3);
            image.put(255, 0, 255, 0, 0).pair(1).put(37, 0);
            image.put(0, 1, 0, 255, 3, 0).pair(1).put(37, 0);
            image.put(1, told);
            for (int i = 0; i < told; i++) {
                image.put(0);
            }
            image.put(255, 3, 0).pair(1).put(37, 0).put(0);
            CHECK.due("told " + told + " where 1 is told above: end",
                ImageBytes.load(new CodeImages(), image.bytes()), told == 1 ? 3 : -3 - image.at("below"));
        }
    }

    /** The upper class has the slot from its own upper class. */
    private static void slotFarAbove() {
        for (int type = 0; type < 2; type++) {
            ImageBytes image = new ImageBytes();
            image.put(3, 255, 0, 1, 3, 1).put(0, 0, 0).put(1, 0, 1, 3).name("below").put(2);
            image.put(0, 0, 0, 0, 0).put(3);
            image.put(255, 0, 255, 0, 0).pair(1).put(37, 0);
            image.put(0, 1, 0, 255, 3, 0).pair(1).put(37, 0);
            image.put(2, 1, type, 255, 3, 0).pair(1).put(37, 0).put(0);
            CHECK.due("type " + type + " where 0 is far above: end",
                ImageBytes.load(new CodeImages(), image.bytes()), type == 0 ? 3 : -3 - image.at("below"));
        }
    }

    private static void codeSecond() {
        secondOperand(19, 2, 0, 1);
        secondOperand(20, 2, 0, 77);
        secondOperand(21, 1, 0, 7);
        secondOperand(22, 1, 1, 0);
        secondOperand(23, 1, 255, 255);
        secondOperand(24, 1, 0, 78);
        secondOperand(25, 1, 0, 70);
        secondOperand(36, 1, 6);
        secondOperand(36, 1, 255);
        right("i36", 35, 0);
        right("i27", 27, 1, 0);
        wrongAt(Samples.full().at("i0") + 1, "i0", 25, 0, 1, 4, 4);
        right("i25", 25, 0, 76);
    }

    private static void secondOperand(int instruction, int which, int... changed) {
        int[] bytes = Samples.full().bytes();
        int place = Samples.full().at("i" + instruction) + which;
        System.arraycopy(changed, 0, bytes, place, changed.length);
        CHECK.due("operand " + which + " of instruction " + instruction + " = " + Arrays.toString(changed) + ": end",
            ImageBytes.load(new CodeImages(), bytes), -3 - place);
        bytes[bytes.length - 1] = 1;
        CHECK.due("the same with another first method: end",
            ImageBytes.load(new CodeImages(), bytes), -3 - (bytes.length - 1));
    }

    private static void handlersSecond() {
        int length = Samples.placeOf(Samples.CODE.length);
        wrong("h0from", 0, 1);
        wrong("h0from", 0, length);
        wrong("h0from", 1, 0);
        wrong("h0to", 0, 4);
        wrong("h0to", 0, length + 1);
        wrong("h0to", 255, 255);
        wrong("h0place", 0, 1);
        wrong("h0place", 0, length);
        wrong("h1from", 0, 6);
        wrong("h1from", 0, 8);
        wrong("h1from", 0, 4);
        wrong("h1to", 0, 7);
        wrongAt(Samples.full().at("h1from"), "h1to", 0, 5);
        wrongAt(Samples.full().at("h1from"), "h1to", 0, 4);
        wrongAt(Samples.full().at("h0from"), "h0to", 0, 0);
        right("h1to", 0, length);
        right("h1place", 0, length - 1);
        wrong("m4from", 0, 3);
        wrong("m4to", 0, 2);
        wrong("m4to", 0, 4);
        wrong("m4place", 0, 3);
    }

    /** Two wrong bytes: what is wrong first is told, and of second ones that which stands first. */
    private static void whichIsFirst() {
        twice("slotm00", 9, "i1", 42, "i1");
        twice("slotm00", 200, "first", 9, "first");
        twice("slotm00", 255, "first", 9, "first");
        twice("slotm00", 0, "first", 9, "first");
        twice("slotm00", 9, "slotm10", 9, "slotm00");
        twice("slotm11", 9, "m4place", 9, "slotm11");
        twice("h0from", 9, "h1class", 9, "h1class");
        twice("h0from", 9, "m4place", 9, "h0from");
        twice("h0to", 1, "h0place", 1, "h0to");
        twice("type00", 9, "m1", 9, "type00");
    }

    private static void twice(String name, int changed, String other, int otherChanged, String told) {
        ImageBytes image = Samples.full();
        int[] bytes = image.with(name, changed);
        bytes[image.at(other)] = otherChanged;
        CHECK.due(name + " and " + other + ": end", ImageBytes.load(new CodeImages(), bytes), -3 - image.at(told));
    }
}
