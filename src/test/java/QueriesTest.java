/** Promises 4 to 10: what is asked of the full image. */
public final class QueriesTest {
    private static final Check CHECK = new Check("promises 4 to 10");
    private static final int[] FAR = {Integer.MIN_VALUE, -256, -2, -1, 256, 65536, 1 << 28, Integer.MAX_VALUE};

    public static void main(String[] args) {
        Loaded full = new Loaded(Samples.full().bytes());
        count(full);
        classOf(full);
        isA(full);
        method(full);
        handler(full);
        instruction(full);
        thrown(full);
        CHECK.end();
    }

    private static void count(Loaded full) {
        CHECK.due("count(0)", full.x().count(0), 3);
        CHECK.due("count(1)", full.x().count(1), 6);
        CHECK.due("count(2)", full.x().count(2), Samples.CODE.length + 6);
        CHECK.due("count(3)", full.x().count(3), 0);
        CHECK.due("count(4)", full.x().count(4), -1);
        for (int far : FAR) {
            CHECK.due("count(" + far + ")", full.x().count(far), -1);
            CHECK.due("count(" + far + ") without an image", new CodeImages().count(far), -1);
        }
    }

    private static void classOf(Loaded full) {
        row("upper classes", new int[] {-1, 0, -1, -1}, c -> full.x().classOf(c, 0, 99));
        row("fields", new int[] {2, 4, 0, -1}, c -> full.x().classOf(c, 1, -99));
        row("types of class 0", new int[] {0, 64, -1}, k -> full.x().classOf(0, 2, k));
        row("types of class 1", new int[] {0, 64, 1, 67, -1}, k -> full.x().classOf(1, 2, k));
        row("types of class 2", new int[] {-1}, k -> full.x().classOf(2, 2, k));
        int no = -1;
        row("slots of class 0", new int[] {1, no, no, no, no, no, no, no, no, no, no, no, no, no, no, 2, no},
            k -> full.x().classOf(0, 3, k));
        row("slots of class 1", new int[] {3, no, no, no, 4, no, no, no, no, no, no, no, no, no, no, 2, no},
            k -> full.x().classOf(1, 3, k));
        row("slots of class 2", new int[17], k -> full.x().classOf(2, 3, k) + 1);
        for (int far : FAR) {
            for (int what = 0; what < 4; what++) {
                CHECK.due("classOf(" + far + ", " + what + ", 0)", full.x().classOf(far, what, 0), -1);
            }
            CHECK.due("classOf(1, 2, " + far + ")", full.x().classOf(1, 2, far), -1);
            CHECK.due("classOf(1, 3, " + far + ")", full.x().classOf(1, 3, far), -1);
            CHECK.due("classOf(1, " + far + ", 0)", full.x().classOf(1, far, 0), -1);
        }
        CHECK.due("classOf(1, 4, 0)", full.x().classOf(1, 4, 0), -1);
    }

    private static void isA(Loaded full) {
        int[][] due = {{1, 0, 0, 0}, {1, 1, 0, 0}, {0, 0, 1, 0}, {0, 0, 0, 0}};
        for (int c = 0; c < 4; c++) {
            for (int above = 0; above < 4; above++) {
                CHECK.due("isA(" + c + ", " + above + ")", full.x().isA(c, above), due[c][above] == 1);
            }
        }
        for (int far : FAR) {
            CHECK.due("isA(" + far + ", " + far + ")", full.x().isA(far, far), false);
            CHECK.due("isA(0, " + far + ")", full.x().isA(0, far), false);
            CHECK.due("isA(" + far + ", 0)", full.x().isA(far, 0), false);
        }
        CHECK.due("isA(0, 255)", full.x().isA(0, 255), false);
    }

    private static void method(Loaded full) {
        row("owners", new int[] {-1, 0, 0, 1, 1, -1, -1}, m -> full.x().method(m, 0, 99));
        row("parameters", new int[] {0, 3, 1, 3, 2, 7, -1}, m -> full.x().method(m, 1, -99));
        row("parameters of 0", new int[] {-1}, k -> full.x().method(0, 2, k));
        row("parameters of 1", new int[] {1, 0, 64, -1}, k -> full.x().method(1, 2, k));
        row("parameters of 2", new int[] {1, -1}, k -> full.x().method(2, 2, k));
        row("parameters of 4", new int[] {2, 1, -1}, k -> full.x().method(4, 2, k));
        row("parameters of 5", new int[] {0, 1, 2, 3, 64, 65, 67, -1, -1}, k -> full.x().method(5, 2, k));
        row("given types", new int[] {-1, 0, -1, 0, 66, -1, -1}, m -> full.x().method(m, 3, 0));
        row("locals", new int[] {3, 3, 1, 4, 2, 12, -1}, m -> full.x().method(m, 4, 0));
        row("places of the stack", new int[] {9, 9, 0, 1, 2, 0, -1}, m -> full.x().method(m, 5, 0));
        row("bytes of code", new int[] {77, 1, 1, 2, 3, 1, -1}, m -> full.x().method(m, 6, 0));
        row("instructions", new int[] {43, 1, 1, 2, 1, 1, -1}, m -> full.x().method(m, 7, 0));
        for (int k = 0; k < Samples.CODE.length; k++) {
            CHECK.due("method(0, 8, " + k + ")", full.x().method(0, 8, k), Samples.placeOf(k));
        }
        CHECK.due("method(0, 8, 43)", full.x().method(0, 8, 43), -1);
        row("instructions of 3", new int[] {0, 1, -1}, k -> full.x().method(3, 8, k));
        row("handlers", new int[] {2, 0, 0, 0, 1, 0, -1}, m -> full.x().method(m, 9, 0));
        for (int far : FAR) {
            for (int what = 0; what < 10; what++) {
                CHECK.due("method(" + far + ", " + what + ", 0)", full.x().method(far, what, 0), -1);
            }
            CHECK.due("method(5, 2, " + far + ")", full.x().method(5, 2, far), -1);
            CHECK.due("method(0, 8, " + far + ")", full.x().method(0, 8, far), -1);
            CHECK.due("method(0, " + far + ", 0)", full.x().method(0, far, 0), -1);
        }
        CHECK.due("method(0, 10, 0)", full.x().method(0, 10, 0), -1);
    }

    private static void handler(Loaded full) {
        row("handler 0 of 0", new int[] {0, 77, 2, 5, -1}, what -> full.x().handler(0, 0, what));
        row("handler 1 of 0", new int[] {5, 6, 0, 0, -1}, what -> full.x().handler(0, 1, what));
        row("handler 2 of 0", new int[] {-1, -1, -1, -1, -1}, what -> full.x().handler(0, 2, what));
        row("handler 0 of 1", new int[] {-1, -1, -1, -1, -1}, what -> full.x().handler(1, 0, what));
        row("handler 0 of 4", new int[] {0, 3, 0, 0, -1}, what -> full.x().handler(4, 0, what));
        for (int far : FAR) {
            CHECK.due("handler(" + far + ", 0, 0)", full.x().handler(far, 0, 0), -1);
            CHECK.due("handler(0, " + far + ", 0)", full.x().handler(0, far, 0), -1);
            CHECK.due("handler(0, 0, " + far + ")", full.x().handler(0, 0, far), -1);
        }
    }

    private static void instruction(Loaded full) {
        int[][] operands = {
            {0x80000001, 0}, {0, 0}, {0, 0}, {2, 0}, {0, 0}, {0, 0}, {0, 0},
            {0, 0}, {0, 0}, {0, 0}, {0, 0}, {0, 0}, {0, 0}, {0, 0}, {0, 0}, {0, 0}, {0, 0}, {0, 0}, {0, 0},
            {0, 0}, {5, 5}, {6, 0}, {8, 0}, {10, 0}, {11, 0}, {76, 0},
            {2, 0}, {1, 3}, {0, 1}, {0, 0}, {1, 0}, {0, 0}, {3, 0},
            {0, 0}, {0, 0}, {0, 0}, {5, 0}, {1, 15}, {0, 0}, {0, 0}, {0, 0}, {0, 0}, {0, 0},
        };
        for (int i = 0; i < Samples.CODE.length; i++) {
            int place = Samples.placeOf(i);
            row("instruction " + i, new int[] {
                Samples.CODE[i][0], operands[i][0], operands[i][1], Samples.placeOf(i + 1), -1,
            }, what -> full.x().instruction(0, place, what));
            for (int inside = place + 1; inside < Samples.placeOf(i + 1); inside++) {
                int none = inside;
                row("within instruction " + i, new int[] {-1, -1, -1, -1}, what -> full.x().instruction(0, none, what));
            }
        }
        row("behind the code", new int[] {-1, -1, -1, -1}, what -> full.x().instruction(0, 77, what));
        row("GOTO of 4", new int[] {25, 0, 0, 3, -1}, what -> full.x().instruction(4, 0, what));
        for (int far : FAR) {
            CHECK.due("instruction(" + far + ", 0, 0)", full.x().instruction(far, 0, 0), -1);
            CHECK.due("instruction(0, " + far + ", 0)", full.x().instruction(0, far, 0), -1);
            CHECK.due("instruction(0, 0, " + far + ")", full.x().instruction(0, 0, far), -1);
        }
        CHECK.due("instruction(6, 0, 0)", full.x().instruction(6, 0, 0), -1);
        for (int place = -150; place < 150; place++) {
            CHECK.due("instruction(2, " + place + ", 0)", full.x().instruction(2, place, 0), place == 0 ? 37 : -1);
        }
        farPlace();
    }

    /** A place whose higher byte counts. */
    private static void farPlace() {
        ImageBytes image = new ImageBytes();
        image.put(1, 255, 0, 0).put(0, 0, 0, 0, 0).put(1).put(255, 0, 255, 0, 0).pair(900);
        for (int i = 0; i < 896; i++) {
            image.put(37);
        }
        image.put(20, 3).pair(895).put(1).pair(258).pair(900).put(0).pair(514).put(0);
        CodeImages x = new CodeImages();
        CHECK.due("end", ImageBytes.load(x, image.bytes()), 897);
        row("IFC", new int[] {20, 3, 895, 900, -1}, what -> x.instruction(0, 896, what));
        row("its handler", new int[] {258, 900, 0, 514, -1}, what -> x.handler(0, 0, what));
    }

    private static void thrown(Loaded full) {
        row("thrown", new int[] {2, 2, 0, 1, 0, -1}, k -> full.x().thrown(k));
        for (int far : FAR) {
            CHECK.due("thrown(" + far + ")", full.x().thrown(far), -1);
        }
    }

    private static void row(String name, int[] due, java.util.function.IntUnaryOperator call) {
        for (int i = 0; i < due.length; i++) {
            CHECK.due(name + " at " + i, call.applyAsInt(i), due[i]);
        }
    }
}
