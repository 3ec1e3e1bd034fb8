import java.util.ArrayList;
import java.util.Arrays;
import java.util.List;
import java.util.Random;

/** Makes images that are right, from a seed, so that a run can be repeated. */
final class RandomImages {
    private static final int[] LENGTHS = {
        5, 1, 2, 2, 1, 1, 1, 1, 1, 1, 1, 1, 1, 1, 1, 1, 1, 1, 1, 4, 4, 3, 3, 3, 3, 3,
        2, 3, 3, 2, 2, 2, 1, 1, 1, 2, 3, 1, 1, 1, 1, 1,
    };

    private final Random random;
    private ImageBytes out;
    private int classes;
    private int[] fields;
    private int[][] slots;
    /** Of each method: its owner, the type that it gives, then the types that are told. */
    private List<int[]> heads;

    RandomImages(long seed) {
        random = new Random(seed);
    }

    private int below(int bound) {
        return random.nextInt(bound);
    }

    private int type() {
        return below(2) * 64 + below(classes + 1);
    }

    int[] next() {
        out = new ImageBytes();
        classes = 1 + below(below(4) == 0 ? 32 : 5);
        fields = new int[classes];
        slots = new int[classes][16];
        heads = new ArrayList<>();
        heads.add(new int[] {255, below(2) == 0 ? 255 : type()});
        out.put(classes);
        for (int c = 0; c < classes; c++) {
            putClass(c);
        }
        for (int k = 0; k < 5; k++) {
            out.put(below(classes));
        }
        addFreeMethods();
        out.put(heads.size());
        for (int[] head : heads) {
            putMethod(head);
        }
        out.put(0);
        return out.bytes();
    }

    private void putClass(int c) {
        int upper = below(3) == 0 || c == 0 ? 255 : below(c);
        int above = upper == 255 ? 0 : fields[upper];
        Arrays.fill(slots[c], -1);
        if (upper != 255) {
            slots[c] = slots[upper].clone();
        }
        int own = Math.min(below(5), 15 - above);
        fields[c] = above + own;
        out.put(upper, own);
        for (int i = 0; i < own; i++) {
            out.put(type());
        }
        List<Integer> told = new ArrayList<>();
        for (int s = 0; s < 16; s++) {
            if (below(6) == 0 && heads.size() + told.size() < 60) {
                told.add(s);
            }
        }
        out.put(told.size());
        for (int s : told) {
            out.put(s, heads.size());
            heads.add(slots[c][s] < 0 ? head(c) : below(heads.get(slots[c][s]), c));
            slots[c][s] = heads.size() - 1;
        }
    }

    private int[] head(int owner) {
        int[] head = new int[2 + below(8)];
        for (int i = 1; i < head.length; i++) {
            head[i] = type();
        }
        head[0] = owner;
        head[1] = below(3) == 0 ? 255 : head[1];
        return head;
    }

    private static int[] below(int[] above, int owner) {
        int[] head = above.clone();
        head[0] = owner;
        return head;
    }

    private void addFreeMethods() {
        int more = below(4);
        for (int i = 0; i < more; i++) {
            heads.add(head(below(2) == 0 ? 255 : below(classes)));
        }
    }

    private void putMethod(int[] head) {
        int parameters = head.length - 2 + (head[0] == 255 ? 0 : 1);
        int locals = parameters + below(13 - parameters);
        out.put(head[0], head.length - 2);
        for (int i = 2; i < head.length; i++) {
            out.put(head[i]);
        }
        out.put(head[1], locals, below(13 - locals));
        int[] codes = new int[1 + below(12)];
        List<Integer> places = new ArrayList<>();
        int length = 0;
        for (int i = 0; i < codes.length; i++) {
            codes[i] = code(locals);
            places.add(length);
            length += LENGTHS[codes[i]];
        }
        out.pair(length);
        for (int code : codes) {
            out.put(code);
            putOperands(code, locals, places);
        }
        places.add(length);
        putHandlers(places);
    }

    private int code(int locals) {
        int code = below(42);
        boolean needsMore = (code == 2 || code == 3) && locals == 0
            || (code == 27 || code == 28) && classWithField() < 0 || code == 36 && classWithSlot() < 0;
        return needsMore ? 37 : code;
    }

    private int classWithField() {
        int from = below(classes);
        for (int i = 0; i < classes; i++) {
            int c = (from + i) % classes;
            if (fields[c] > 0) {
                return c;
            }
        }
        return -1;
    }

    private int classWithSlot() {
        int from = below(classes);
        for (int i = 0; i < classes; i++) {
            int c = (from + i) % classes;
            if (Arrays.stream(slots[c]).anyMatch(m -> m >= 0)) {
                return c;
            }
        }
        return -1;
    }

    private void putOperands(int code, int locals, List<Integer> places) {
        if (code == 0) {
            int number = random.nextInt();
            out.put(number >> 24, number >> 16, number >> 8, number);
        } else if (code == 2 || code == 3) {
            out.put(below(locals));
        } else if (code >= 19 && code <= 25) {
            if (code <= 20) {
                out.put(below(6));
            }
            out.pair(places.get(below(places.size())));
        } else if (code == 27 || code == 28) {
            int c = classWithField();
            out.put(c, below(fields[c]));
        } else if (code == 31) {
            out.put(below(classes + 1));
        } else if (code == 35) {
            out.put(below(heads.size()));
        } else if (code == 36) {
            int c = classWithSlot();
            int slot = below(16);
            while (slots[c][slot] < 0) {
                slot = (slot + 1) % 16;
            }
            out.put(c, slot);
        } else if (LENGTHS[code] == 2) {
            out.put(below(classes));
        }
    }

    /** Handlers over places, the last of which is the code's end. */
    private void putHandlers(List<Integer> places) {
        int handlers = below(2) * below(9);
        out.put(handlers);
        for (int i = 0; i < handlers; i++) {
            int from = below(places.size() - 1);
            int to = from + 1 + below(places.size() - 1 - from);
            out.pair(places.get(from)).pair(places.get(to)).put(below(classes));
            out.pair(places.get(below(places.size() - 1)));
        }
    }
}
