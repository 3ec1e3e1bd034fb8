import java.util.ArrayList;
import java.util.Arrays;
import java.util.List;
import java.util.TreeMap;
import java.util.TreeSet;

/**
 * The document read a second time, in another way than the class: into objects,
 * with an exception for what is wrong first, and all that is wrong second
 * gathered before the first of it is told.
 */
final class Oracle {
    /** Operands of the instructions 0 to 41, a letter each as in the document. */
    private static final String[] FORMS = {
        "i", "", "n", "n", "", "", "", "", "", "", "", "", "", "", "", "", "", "", "",
        "qp", "qp", "p", "p", "p", "p", "p", "c", "cf", "cf", "c", "c", "t", "", "", "", "m", "cs",
        "", "", "", "", "",
    };

    static final class Wrong extends Exception {
        private static final long serialVersionUID = 1;
        final int place;

        Wrong(int place) {
            super(null, null, false, false);
            this.place = place;
        }
    }

    static final class Kind {
        int upper = -1;
        final List<Integer> fields = new ArrayList<>();
        final TreeMap<Integer, Integer> slots = new TreeMap<>();
        final TreeMap<Integer, Integer> toldAt = new TreeMap<>();
    }

    static final class Instruction {
        int code;
        int end;
        final List<Integer> operands = new ArrayList<>();
        final List<Integer> operandsAt = new ArrayList<>();
    }

    static final class Routine {
        int owner = -1;
        final List<Integer> parameters = new ArrayList<>();
        int gives = -1;
        int locals;
        int stack;
        int length;
        final TreeMap<Integer, Instruction> code = new TreeMap<>();
        final List<int[]> handlers = new ArrayList<>();
        final List<Integer> handlersAt = new ArrayList<>();
    }

    private final int[] bytes;
    private int at = 0;
    private int classCount;
    final List<Kind> kinds = new ArrayList<>();
    final List<Integer> faults = new ArrayList<>();
    final List<Routine> routines = new ArrayList<>();
    int first;

    Oracle(int[] bytes) throws Wrong {
        this.bytes = bytes;
        readAll();
        TreeSet<Integer> wrong = new TreeSet<>();
        wrongSlots(wrong);
        wrongRoutines(wrong);
        if (!wrong.isEmpty()) {
            throw new Wrong(wrong.first());
        }
    }

    int instructions() {
        return routines.stream().mapToInt(r -> r.code.size()).sum();
    }

    private int any() throws Wrong {
        if (at == bytes.length) {
            throw new Wrong(at);
        }
        return bytes[at++];
    }

    private void must(boolean can) throws Wrong {
        if (!can) {
            throw new Wrong(at - 1);
        }
    }

    private int within(int least, int most) throws Wrong {
        int value = any();
        must(least <= value && value <= most);
        return value;
    }

    private int type(boolean orNone) throws Wrong {
        int value = any();
        must(value <= classCount || value >= 64 && value - 64 <= classCount || orNone && value == 255);
        return value == 255 ? -1 : value;
    }

    private int owner(int below) throws Wrong {
        int value = any();
        must(value == 255 || value < below);
        return value == 255 ? -1 : value;
    }

    private void readAll() throws Wrong {
        classCount = within(1, 32);
        while (kinds.size() < classCount) {
            readKind();
        }
        while (faults.size() < 5) {
            faults.add(within(0, classCount - 1));
        }
        int count = within(1, 64);
        while (routines.size() < count) {
            readRoutine();
        }
        first = within(0, count - 1);
        must(routines.get(first).owner == -1 && routines.get(first).parameters.isEmpty());
        if (at < bytes.length) {
            throw new Wrong(at);
        }
    }

    private void readKind() throws Wrong {
        Kind kind = new Kind();
        kind.upper = owner(kinds.size());
        if (kind.upper >= 0) {
            kind.fields.addAll(kinds.get(kind.upper).fields);
            kind.slots.putAll(kinds.get(kind.upper).slots);
        }
        int own = any();
        must(own + kind.fields.size() <= 15);
        for (int i = 0; i < own; i++) {
            kind.fields.add(type(false));
        }
        int told = within(0, 16);
        int last = -1;
        for (int i = 0; i < told; i++) {
            last = within(last + 1, 15);
            kind.toldAt.put(last, at);
            kind.slots.put(last, any());
        }
        kinds.add(kind);
    }

    private void readRoutine() throws Wrong {
        Routine routine = new Routine();
        routine.owner = owner(classCount);
        if (routine.owner >= 0) {
            routine.parameters.add(routine.owner + 1);
        }
        int told = within(0, 7);
        for (int i = 0; i < told; i++) {
            routine.parameters.add(type(false));
        }
        routine.gives = type(true);
        routine.locals = within(routine.parameters.size(), 12);
        routine.stack = any();
        must(routine.locals + routine.stack <= 12);
        int high = any();
        must(high * 256 <= 1000);
        routine.length = high * 256 + any();
        must(routine.length >= 1 && routine.length <= 1000);
        int start = at;
        while (at < start + routine.length) {
            readInstruction(routine, start);
        }
        int handlers = within(0, 8);
        for (int i = 0; i < handlers; i++) {
            routine.handlersAt.add(at);
            int from = any() * 256 + any();
            int to = any() * 256 + any();
            int kind = within(0, classCount - 1);
            routine.handlers.add(new int[] {from, to, kind, any() * 256 + any()});
        }
        routines.add(routine);
    }

    private void readInstruction(Routine routine, int start) throws Wrong {
        Instruction one = new Instruction();
        int place = at - start;
        one.code = within(0, FORMS.length - 1);
        String form = FORMS[one.code];
        int operandBytes = form.length() + (form.contains("p") ? 1 : 0) + (form.contains("i") ? 3 : 0);
        one.end = place + 1 + operandBytes;
        must(one.end <= routine.length);
        for (char letter : form.toCharArray()) {
            one.operandsAt.add(at);
            one.operands.add(readOperand(letter, routine, one));
        }
        routine.code.put(place, one);
    }

    private int readOperand(char letter, Routine routine, Instruction one) throws Wrong {
        switch (letter) {
            case 'i':
                return any() << 24 | any() << 16 | any() << 8 | any();
            case 'p':
                return any() * 256 + any();
            case 'n':
                return within(0, routine.locals - 1);
            case 'q':
                return within(0, 5);
            case 'c':
                return within(0, classCount - 1);
            case 't':
                return within(0, classCount);
            case 'f':
                return within(0, kinds.get(one.operands.get(0)).fields.size() - 1);
            case 's':
                int slot = any();
                must(kinds.get(one.operands.get(0)).slots.containsKey(slot));
                return slot;
            default:
                return any();
        }
    }

    private void wrongSlots(TreeSet<Integer> wrong) {
        for (int c = 0; c < classCount; c++) {
            Kind kind = kinds.get(c);
            for (int slot : kind.toldAt.keySet()) {
                int told = kind.slots.get(slot);
                Integer above = kind.upper < 0 ? null : kinds.get(kind.upper).slots.get(slot);
                boolean bad = told >= routines.size() || routines.get(told).owner != c;
                if (!bad && above != null && above < routines.size()) {
                    bad = differ(routines.get(told), routines.get(above));
                }
                if (bad) {
                    wrong.add(kind.toldAt.get(slot));
                }
            }
        }
    }

    private static boolean differ(Routine one, Routine other) {
        return one.gives != other.gives || !told(one).equals(told(other));
    }

    private static List<Integer> told(Routine routine) {
        int before = Math.min(1, routine.parameters.size());
        return routine.parameters.subList(before, routine.parameters.size());
    }

    private void wrongRoutines(TreeSet<Integer> wrong) {
        for (Routine routine : routines) {
            for (Instruction one : routine.code.values()) {
                String form = FORMS[one.code];
                for (int i = 0; i < form.length(); i++) {
                    int operand = one.operands.get(i);
                    if (form.charAt(i) == 'p' && !routine.code.containsKey(operand)
                        || form.charAt(i) == 'm' && operand >= routines.size()) {
                        wrong.add(one.operandsAt.get(i));
                    }
                }
            }
            for (int k = 0; k < routine.handlers.size(); k++) {
                wrongHandler(wrong, routine, routine.handlers.get(k), routine.handlersAt.get(k));
            }
        }
    }

    private static void wrongHandler(TreeSet<Integer> wrong, Routine routine, int[] handler, int place) {
        if (!routine.code.containsKey(handler[0]) || handler[0] >= handler[1]) {
            wrong.add(place);
        }
        if (!routine.code.containsKey(handler[1]) && handler[1] != routine.length) {
            wrong.add(place + 2);
        }
        if (!routine.code.containsKey(handler[3])) {
            wrong.add(place + 5);
        }
    }

    /** What the calls answer of an image, which may be null: none. */
    static int count(Oracle image, int what) {
        int[] facts = image == null ? new int[] {0, 0, 0, -1}
            : new int[] {image.kinds.size(), image.routines.size(), image.instructions(), image.first};
        return what >= 0 && what < facts.length ? facts[what] : -1;
    }

    static int classFact(Oracle image, int c, int what, int k) {
        if (image == null || c < 0 || c >= image.kinds.size()) {
            return -1;
        }
        Kind kind = image.kinds.get(c);
        int[] facts = {kind.upper, kind.fields.size(), item(kind.fields, k), kind.slots.getOrDefault(k, -1)};
        return what >= 0 && what < facts.length ? facts[what] : -1;
    }

    static boolean isA(Oracle image, int c, int above) {
        if (image == null || c < 0 || c >= image.kinds.size()) {
            return false;
        }
        return c == above || isA(image, image.kinds.get(c).upper, above);
    }

    static int fault(Oracle image, int k) {
        return image == null ? -1 : item(image.faults, k);
    }

    private static Routine routine(Oracle image, int m) {
        return image == null || m < 0 || m >= image.routines.size() ? null : image.routines.get(m);
    }

    static int methodFact(Oracle image, int m, int what, int k) {
        Routine routine = routine(image, m);
        return routine == null ? -1 : fact(routine, what, k);
    }

    static int handlerFact(Oracle image, int m, int k, int what) {
        Routine routine = routine(image, m);
        boolean is = routine != null && k >= 0 && k < routine.handlers.size() && what >= 0 && what < 4;
        return is ? routine.handlers.get(k)[what] : -1;
    }

    static int instructionFact(Oracle image, int m, int place, int what) {
        Routine routine = routine(image, m);
        Instruction one = routine == null ? null : routine.code.get(place);
        return one == null ? -1 : fact(one, what);
    }

    /** What method answers of a routine, for each what; k is in its range or not. */
    private static int fact(Routine routine, int what, int k) {
        List<Integer> places = new ArrayList<>(routine.code.keySet());
        int[] facts = {
            routine.owner, routine.parameters.size(), item(routine.parameters, k), routine.gives, routine.locals,
            routine.stack, routine.length, places.size(), item(places, k), routine.handlers.size(),
        };
        return what >= 0 && what < facts.length ? facts[what] : -1;
    }

    /** What instruction answers of one, for each what. */
    private static int fact(Instruction one, int what) {
        int[] operands = Arrays.copyOf(one.operands.stream().mapToInt(Integer::intValue).toArray(), 2);
        int[] facts = {one.code, operands[0], operands[1], one.end};
        return what >= 0 && what < facts.length ? facts[what] : -1;
    }

    private static int item(List<Integer> list, int k) {
        return k >= 0 && k < list.size() ? list.get(k) : -1;
    }
}
