import java.util.Arrays;
import java.util.Random;

/** All promises, on images from a seed, whole, changed, cut and lengthened, against a second reading. */
public final class OracleTest {
    private static final Check CHECK = new Check("against the oracle");
    private static final int IMAGES = 150;
    private static final int CHANGES = 60;
    /** What was read last is read before the next image, too: it may leave no traces. */
    private static int[] last = {};

    public static void main(String[] args) {
        Random random = new Random(20261116);
        RandomImages images = new RandomImages(7);
        for (int i = 0; i < IMAGES; i++) {
            int[] bytes = images.next();
            CHECK.due("image " + i + " is right", same("image " + i, bytes), true);
            for (int j = 0; j < CHANGES; j++) {
                same("image " + i + ", change " + j, change(bytes, random));
            }
        }
        for (int[] bytes : new int[][] {Samples.small().bytes(), Samples.full().bytes()}) {
            everyByte(bytes);
        }
        noise(random);
        CHECK.end();
    }

    /** Each byte of an image, changed to each other one. */
    private static void everyByte(int[] bytes) {
        for (int i = 0; i < bytes.length; i++) {
            int[] changed = bytes.clone();
            for (int b = 0; b < 256; b++) {
                changed[i] = b;
                same("byte " + i + " = " + b, changed);
            }
        }
    }

    private static void noise(Random random) {
        for (int i = 0; i < 2000; i++) {
            int[] bytes = new int[random.nextInt(200)];
            int bound = 1 << 1 + random.nextInt(8);
            for (int j = 0; j < bytes.length; j++) {
                bytes[j] = random.nextInt(bound);
            }
            same("noise " + i, bytes);
        }
    }

    private static int[] change(int[] bytes, Random random) {
        int[] changed = bytes.clone();
        int places = 1 + random.nextInt(3);
        for (int i = 0; i < places; i++) {
            int at = random.nextInt(changed.length);
            changed[at] = random.nextInt(3) == 0 ? random.nextInt(256) : changed[at] + random.nextInt(5) - 2 & 255;
        }
        int length = random.nextInt(8) == 0 ? random.nextInt(bytes.length + 10) : bytes.length;
        return Arrays.copyOf(changed, length);
    }

    /** Compares all answers for an image; whether it is right. */
    private static boolean same(String name, int[] bytes) {
        if (bytes.length > 8000) {
            return true;
        }
        Loaded object = new Loaded(last, bytes);
        last = bytes.clone();
        int got = object.answer();
        try {
            Oracle oracle = new Oracle(bytes);
            CHECK.due(name + ": end", got, oracle.instructions());
            sameClasses(name, object, oracle);
            sameMethods(name, object, oracle);
            return true;
        } catch (Oracle.Wrong wrong) {
            CHECK.due(name + ": end", got, -3 - wrong.place);
            CHECK.due(name + ": count(0)", object.x().count(0), 0);
            return false;
        }
    }

    private static void sameClasses(String name, Loaded object, Oracle oracle) {
        int size = oracle.kinds.size();
        for (int what = -1; what < 5; what++) {
            CHECK.due(name + ": count(" + what + ")", object.x().count(what), Oracle.count(oracle, what));
        }
        for (int k = -1; k < 6; k++) {
            CHECK.due(name + ": thrown(" + k + ")", object.x().thrown(k), Oracle.fault(oracle, k));
        }
        for (int c = 0; c <= size; c++) {
            for (int what = 0; what < 4; what++) {
                for (int k = -1; k < 17; k++) {
                    CHECK.due(name + ": classOf(" + c + ", " + what + ", " + k + ")",
                        object.x().classOf(c, what, k), Oracle.classFact(oracle, c, what, k));
                }
            }
            for (int above = -1; above <= size; above++) {
                CHECK.due(name + ": isA(" + c + ", " + above + ")",
                    object.x().isA(c, above), Oracle.isA(oracle, c, above));
            }
        }
    }

    private static void sameMethods(String name, Loaded object, Oracle oracle) {
        for (int m = 0; m <= oracle.routines.size(); m++) {
            for (int what = -1; what < 11; what++) {
                for (int k = -1; k < 14; k++) {
                    CHECK.due(name + ": method(" + m + ", " + what + ", " + k + ")",
                        object.x().method(m, what, k), Oracle.methodFact(oracle, m, what, k));
                }
            }
            sameHandlers(name, object, oracle, m);
            sameCode(name, object, oracle, m);
        }
    }

    private static void sameHandlers(String name, Loaded object, Oracle oracle, int m) {
        for (int k = -1; k < 9; k++) {
            for (int what = -1; what < 5; what++) {
                CHECK.due(name + ": handler(" + m + ", " + k + ", " + what + ")",
                    object.x().handler(m, k, what), Oracle.handlerFact(oracle, m, k, what));
            }
        }
    }

    private static void sameCode(String name, Loaded object, Oracle oracle, int m) {
        int length = Math.max(Oracle.methodFact(oracle, m, 6, 0), 0);
        for (int place = -1; place <= length; place++) {
            for (int what = -1; what < 5; what++) {
                CHECK.due(name + ": instruction(" + m + ", " + place + ", " + what + ")",
                    object.x().instruction(m, place, what), Oracle.instructionFact(oracle, m, place, what));
            }
        }
    }
}
