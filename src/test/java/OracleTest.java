import java.util.Arrays;
import java.util.Map;
import java.util.Random;
import java.util.TreeMap;

/** All promises, on images from a seed, whole, changed, cut and lengthened, against a second reading. */
public final class OracleTest {
    private static final Check CHECK = new Check("against the oracle");
    private static final int IMAGES = 150;
    private static final int CHANGES = 60;

    public static void main(String[] args) {
        Random random = new Random(20261116);
        RandomImages images = new RandomImages(7);
        // One object for all, beyond what is promised of it: no image may leave traces in the next.
        CodeImages x = new CodeImages();
        for (int i = 0; i < IMAGES; i++) {
            int[] bytes = images.next();
            CHECK.due("image " + i + " is right", same("image " + i, x, bytes), true);
            for (int j = 0; j < CHANGES; j++) {
                same("image " + i + ", change " + j, x, change(bytes, random));
            }
        }
        for (int[] bytes : new int[][] {Samples.small().bytes(), Samples.full().bytes()}) {
            everyByte(x, bytes);
        }
        noise(x, random);
        CHECK.end();
    }

    /** Each byte of an image, changed to each other one. */
    private static void everyByte(CodeImages x, int[] bytes) {
        for (int i = 0; i < bytes.length; i++) {
            int[] changed = bytes.clone();
            for (int b = 0; b < 256; b++) {
                changed[i] = b;
                same("byte " + i + " = " + b, x, changed);
            }
        }
    }

    private static void noise(CodeImages x, Random random) {
        for (int i = 0; i < 2000; i++) {
            int[] bytes = new int[random.nextInt(200)];
            int bound = 1 << 1 + random.nextInt(8);
            for (int j = 0; j < bytes.length; j++) {
                bytes[j] = random.nextInt(bound);
            }
            same("noise " + i, x, bytes);
        }
    }

    private static int[] change(int[] bytes, Random random) {
        int[] changed = bytes.clone();
        int places = 1 + random.nextInt(3);
        for (int i = 0; i < places; i++) {
            int at = random.nextInt(changed.length);
            changed[at] = random.nextInt(3) == 0 ? random.nextInt(256) : changed[at] + random.nextInt(5) - 2 & 255;
        }
        int length = random.nextInt(8) == 0 ? random.nextInt(bytes.length + 10) : bytes.length;
        return Arrays.copyOf(changed, length);
    }

    /** Compares all answers for an image; whether it is right. */
    private static boolean same(String name, CodeImages x, int[] bytes) {
        if (bytes.length > 8000) {
            return true;
        }
        int got = ImageBytes.load(x, bytes);
        try {
            Oracle oracle = new Oracle(bytes);
            CHECK.due(name + ": end", got, oracle.instructions());
            sameClasses(name, x, oracle);
            sameMethods(name, x, oracle);
            return true;
        } catch (Oracle.Wrong wrong) {
            CHECK.due(name + ": end", got, -3 - wrong.place);
            CHECK.due(name + ": count(0)", x.count(0), 0);
            return false;
        }
    }

    private static void sameClasses(String name, CodeImages x, Oracle oracle) {
        int size = oracle.kinds.size();
        CHECK.due(name + ": count(0)", x.count(0), size);
        for (int k = -1; k < 6; k++) {
            CHECK.due(name + ": thrown " + k, x.thrown(k), Oracle.item(oracle.faults, k));
        }
        for (int c = 0; c < size; c++) {
            Oracle.Kind kind = oracle.kinds.get(c);
            CHECK.due(name + ": upper of " + c, x.classOf(c, 0, 0), kind.upper);
            CHECK.due(name + ": fields of " + c, x.classOf(c, 1, 0), kind.fields.size());
            for (int k = -1; k < 17; k++) {
                CHECK.due(name + ": type " + k + " of " + c, x.classOf(c, 2, k), Oracle.item(kind.fields, k));
                CHECK.due(name + ": slot " + k + " of " + c, x.classOf(c, 3, k), kind.slots.getOrDefault(k, -1));
            }
            for (int above = -1; above <= size; above++) {
                boolean is = false;
                for (int at = c; at >= 0; at = oracle.kinds.get(at).upper) {
                    is |= at == above;
                }
                CHECK.due(name + ": isA(" + c + ", " + above + ")", x.isA(c, above), is);
            }
        }
        CHECK.due(name + ": class behind the last", x.classOf(size, 1, 0), -1);
    }

    private static void sameMethods(String name, CodeImages x, Oracle oracle) {
        int size = oracle.routines.size();
        CHECK.due(name + ": count(1)", x.count(1), size);
        CHECK.due(name + ": count(2)", x.count(2), oracle.instructions());
        CHECK.due(name + ": count(3)", x.count(3), oracle.first);
        for (int m = 0; m < size; m++) {
            Oracle.Routine routine = oracle.routines.get(m);
            for (int what = -1; what < 11; what++) {
                for (int k = -1; k < 14; k++) {
                    CHECK.due(name + ": method(" + m + ", " + what + ", " + k + ")",
                        x.method(m, what, k), Oracle.fact(routine, what, k));
                }
            }
            sameHandlers(name + ", method " + m, x, m, routine);
            sameCode(name + ", method " + m, x, m, routine);
        }
        CHECK.due(name + ": method behind the last", x.method(size, 1, 0), -1);
    }

    private static void sameHandlers(String name, CodeImages x, int m, Oracle.Routine routine) {
        for (int k = -1; k < 9; k++) {
            for (int what = -1; what < 5; what++) {
                boolean is = k >= 0 && k < routine.handlers.size() && what >= 0 && what < 4;
                CHECK.due(name + ": handler " + k + ", " + what, x.handler(m, k, what),
                    is ? routine.handlers.get(k)[what] : -1);
            }
        }
    }

    private static void sameCode(String name, CodeImages x, int m, Oracle.Routine routine) {
        Map<Integer, Oracle.Instruction> code = new TreeMap<>(routine.code);
        for (int place = -1; place <= routine.length; place++) {
            Oracle.Instruction one = code.get(place);
            for (int what = -1; what < 5; what++) {
                CHECK.due(name + ": instruction at " + place + ", " + what, x.instruction(m, place, what),
                    one == null ? -1 : Oracle.fact(one, what));
            }
        }
    }
}
