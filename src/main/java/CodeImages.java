import java.util.Arrays;

/**
 * An image of classes and methods for an object machine, read from bytes that
 * are fed onto a tape: everything in its place, the first wrong byte told.
 */
public final class CodeImages {
    public static final int NONE = -1;
    public static final int FULL = -2;

    /** The answer of end that tells byte 0; the bytes behind it go downwards. */
    private static final int WRONG_AT_START = -3;
    /** The byte that stands for no class, and for no type. */
    private static final int NOTHING = 255;
    /** A row's type lies so far above the type of what is in it. */
    private static final int ROWS = 64;

    private final Tape tape;
    private final Source image;
    private final Classes classes;
    private final Methods methods;

    public CodeImages() {
        tape = new Tape();
        image = new Source();
        classes = new Classes();
        methods = new Methods();
    }

    public int feed(int a, int b, int c, int d, int e) {
        return tape.add(a, b, c, d, e) ? tape.length() : FULL;
    }

    public int end(int n) {
        if (!image.take(tape, n)) {
            return NONE;
        }
        classes.read(image);
        methods.read(image, classes);
        image.close();
        int wrong = image.stopped() ? image.place() : methods.misfit(image, classes);
        if (wrong == NONE) {
            return methods.instructions();
        }
        classes.clear();
        methods.clear();
        return WRONG_AT_START - wrong;
    }

    public int count(int what) {
        switch (what) {
            case 0:
                return classes.size();
            case 1:
                return methods.size();
            case 2:
                return methods.instructions();
            case 3:
                return methods.first();
            default:
                return NONE;
        }
    }

    public int classOf(int c, int what, int k) {
        switch (what) {
            case 0:
                return classes.upper(c);
            case 1:
                return classes.fields(c);
            case 2:
                return classes.fieldType(c, k);
            case 3:
                return classes.slotMethod(c, k);
            default:
                return NONE;
        }
    }

    public boolean isA(int c, int above) {
        return classes.reaches(c, above);
    }

    public int method(int m, int what, int k) {
        return methods.fact(image, m, what, k);
    }

    public int handler(int m, int k, int what) {
        return methods.handlerFact(image, m, k, what);
    }

    public int instruction(int m, int place, int what) {
        return methods.instructionFact(image, m, place, what);
    }

    public int thrown(int k) {
        return classes.fault(k);
    }

    /** What has been fed: four bytes to a word, so that the numbers stay as they come. */
    private static final class Tape {
        private static final int WORDS = 2000;

        private int[] words = new int[WORDS];
        private int used;

        boolean add(int a, int b, int c, int d, int e) {
            if (used < 0 || used > words.length - 5) {
                return false;
            }
            words[used] = a;
            words[used + 1] = b;
            words[used + 2] = c;
            words[used + 3] = d;
            words[used + 4] = e;
            used += 5;
            return true;
        }

        int length() {
            return used * 4;
        }

        /** Empties the tape: its words for others of the same number, so that none are copied. */
        int[] exchange(int[] others) {
            int[] mine = words;
            words = others;
            used = 0;
            return mine;
        }

        void clear() {
            used = 0;
        }
    }

    /**
     * The bytes of an image. They are read from the front, and reading stops for
     * good at the first byte that cannot stand there: each number behind is NONE.
     */
    private static final class Source {
        private int[] words = new int[Tape.WORDS];
        private int length;
        private int at;
        private boolean stopped;

        /** Whether the tape had n bytes to take; it is empty in either case. */
        boolean take(Tape tape, int n) {
            if (n < 0 || n > tape.length()) {
                tape.clear();
                return false;
            }
            words = tape.exchange(words);
            length = n;
            at = 0;
            stopped = false;
            return true;
        }

        int place() {
            return at;
        }

        boolean stopped() {
            return stopped;
        }

        void stopAt(int place) {
            at = place;
            stopped = true;
        }

        /** Nothing may stand behind what has been read. */
        void close() {
            if (at < length) {
                stopped = true;
            }
        }

        /** The byte that comes next, without reading it; NONE at the end. */
        int next() {
            return byteAt(at);
        }

        int number(int least, int most) {
            int value = byteAt(at);
            if (stopped || value == NONE || value < least || value > most) {
                stopped = true;
                return NONE;
            }
            at++;
            return value;
        }

        int numberOrNothing(int most) {
            return next() == NOTHING ? number(NOTHING, NOTHING) : number(0, most);
        }

        int type(int classes) {
            return next() < ROWS ? number(0, classes) : number(ROWS, ROWS + classes);
        }

        int typeOrNothing(int classes) {
            return next() == NOTHING ? number(NOTHING, NOTHING) : type(classes);
        }

        /** A number of two bytes, each looked at by itself. */
        int pair(int least, int most) {
            int high = number(least >> 8, most >> 8);
            int low = number(high == least >> 8 ? least & 255 : 0, high == most >> 8 ? most & 255 : 255);
            return stopped ? NONE : high << 8 | low;
        }

        /** Reads bytes that can be any. */
        void skip(int bytes) {
            if (stopped) {
                return;
            }
            if (bytes > length - at) {
                stopAt(length);
                return;
            }
            at += bytes;
        }

        int byteAt(int place) {
            int word = place >> 2;
            if (place < 0 || place >= length || word >= words.length) {
                return NONE;
            }
            return words[word] >>> (24 - 8 * (place & 3)) & 255;
        }

        /** The number that so many bytes make, the highest first; 0 of none. */
        int valueAt(int place, int width) {
            int value = 0;
            for (int i = 0; i < width; i++) {
                value = value << 8 | byteAt(place + i);
            }
            return value;
        }
    }

    /** The classes of an image, with what they have from above, and those that the machine throws. */
    private static final class Classes {
        private static final int MOST = 32;
        private static final int FIELDS = 15;
        private static final int SLOTS = 16;
        private static final int FAULTS = 5;

        private int count;
        private final int[] uppers = new int[MOST];
        private final int[] fieldCounts = new int[MOST];
        private final int[] fieldTypes = new int[MOST * FIELDS];
        private final int[] slotMethods = new int[MOST * SLOTS];
        /** Where in the image the class itself tells the slot's method; NONE where it does not. */
        private final int[] slotPlaces = new int[MOST * SLOTS];
        private final int[] faults = new int[FAULTS];

        void clear() {
            count = 0;
        }

        int size() {
            return count;
        }

        boolean has(int c) {
            return c >= 0 && c < count && c < MOST;
        }

        void read(Source in) {
            count = Math.max(in.number(1, MOST), 0);
            for (int c = 0; c < count && !in.stopped(); c++) {
                readClass(in, c);
            }
            for (int k = 0; k < FAULTS; k++) {
                faults[k] = in.number(0, count - 1);
            }
        }

        private void readClass(Source in, int c) {
            int upper = in.numberOrNothing(c - 1);
            uppers[c] = upper == NOTHING ? NONE : upper;
            inherit(c);
            readFields(in, c);
            readSlots(in, c);
        }

        private void inherit(int c) {
            int upper = uppers[c];
            int above = Math.max(fields(upper), 0);
            fieldCounts[c] = above;
            for (int k = 0; k < above; k++) {
                fieldTypes[c * FIELDS + k] = fieldType(upper, k);
            }
            for (int k = 0; k < SLOTS; k++) {
                slotMethods[c * SLOTS + k] = slotMethod(upper, k);
                slotPlaces[c * SLOTS + k] = NONE;
            }
        }

        private void readFields(Source in, int c) {
            int above = fieldCounts[c];
            int own = in.number(0, FIELDS - above);
            for (int i = 0; i < own && !in.stopped(); i++) {
                fieldTypes[c * FIELDS + above + i] = in.type(count);
            }
            fieldCounts[c] = above + Math.max(own, 0);
        }

        private void readSlots(Source in, int c) {
            int told = in.number(0, SLOTS);
            int least = 0;
            for (int i = 0; i < told; i++) {
                int slot = in.number(least, SLOTS - 1);
                int place = in.place();
                int method = in.number(0, 255);
                if (in.stopped()) {
                    return;
                }
                slotMethods[c * SLOTS + slot] = method;
                slotPlaces[c * SLOTS + slot] = place;
                least = slot + 1;
            }
        }

        int upper(int c) {
            return has(c) ? uppers[c] : NONE;
        }

        int fields(int c) {
            return has(c) ? fieldCounts[c] : NONE;
        }

        int fieldType(int c, int k) {
            return k >= 0 && k < fields(c) ? fieldTypes[c * FIELDS + k] : NONE;
        }

        int slotMethod(int c, int k) {
            return has(c) && k >= 0 && k < SLOTS ? slotMethods[c * SLOTS + k] : NONE;
        }

        int slotPlace(int c, int k) {
            return has(c) && k >= 0 && k < SLOTS ? slotPlaces[c * SLOTS + k] : NONE;
        }

        boolean reaches(int c, int above) {
            int at = c;
            for (int i = 0; i < MOST && has(at); i++) {
                if (at == above) {
                    return true;
                }
                at = uppers[at];
            }
            return false;
        }

        int fault(int k) {
            return count > 0 && k >= 0 && k < FAULTS ? faults[k] : NONE;
        }
    }

    /** The operands of each instruction: what they are, and how many bytes they have. */
    private static final class Operands {
        static final int NUMBER = 1;
        static final int LOCAL = 2;
        static final int CONDITION = 3;
        static final int PLACE = 4;
        static final int CLASS = 5;
        static final int FIELD = 6;
        static final int CONTENT = 7;
        static final int METHOD = 8;
        static final int SLOT = 9;

        static final int LAST_CODE = 41;
        static final int LAST_CONDITION = 5;

        private static final int[] WIDTHS = {0, 4, 1, 1, 2, 1, 1, 1, 1, 1};
        private static final int[] FIRSTS = {
            NUMBER, 0, LOCAL, LOCAL, 0, 0, 0,
            0, 0, 0, 0, 0, 0, 0, 0, 0, 0, 0, 0,
            CONDITION, CONDITION, PLACE, PLACE, PLACE, PLACE, PLACE,
            CLASS, CLASS, CLASS, CLASS, CLASS, CONTENT,
            0, 0, 0, METHOD, CLASS, 0, 0, 0, 0, 0
        };
        private static final int[] SECONDS = {
            0, 0, 0, 0, 0, 0, 0,
            0, 0, 0, 0, 0, 0, 0, 0, 0, 0, 0, 0,
            PLACE, PLACE, 0, 0, 0, 0, 0,
            0, FIELD, FIELD, 0, 0, 0,
            0, 0, 0, 0, SLOT, 0, 0, 0, 0, 0
        };

        static int first(int code) {
            return code >= 0 && code < FIRSTS.length ? FIRSTS[code] : 0;
        }

        static int second(int code) {
            return code >= 0 && code < SECONDS.length ? SECONDS[code] : 0;
        }

        static int width(int kind) {
            return kind >= 0 && kind < WIDTHS.length ? WIDTHS[kind] : 0;
        }

        /** The bytes of a whole instruction. */
        static int length(int code) {
            return 1 + width(first(code)) + width(second(code));
        }
    }

    /** The code of the methods: where it lies in the image, and where its instructions begin. */
    private static final class Code {
        private static final int MOST_BYTES = 1000;

        private int total;
        private final int[] starts = new int[Methods.MOST];
        private final int[] lengths = new int[Methods.MOST];
        private final int[] counts = new int[Methods.MOST];
        /** A bit for each byte of the image: whether an instruction begins there. */
        private final int[] begins = new int[Tape.WORDS / 8];

        void clear() {
            total = 0;
            Arrays.fill(begins, 0);
        }

        int total() {
            return total;
        }

        void read(Source in, Classes classes, int m, int locals) {
            int length = Math.max(in.pair(1, MOST_BYTES), 0);
            int start = in.place();
            int count = 0;
            for (int i = 0; i < length && in.place() < start + length && !in.stopped(); i++) {
                readInstruction(in, classes, locals, start + length);
                count++;
            }
            starts[m] = start;
            lengths[m] = length;
            counts[m] = count;
            total += count;
        }

        private void readInstruction(Source in, Classes classes, int locals, int end) {
            int place = in.place();
            int code = in.number(0, Operands.LAST_CODE);
            if (in.stopped()) {
                return;
            }
            if (Operands.length(code) > end - place) {
                in.stopAt(place);
                return;
            }
            markBegin(place);
            int first = readOperand(in, classes, Operands.first(code), locals);
            int second = Operands.second(code);
            if (second == Operands.FIELD) {
                in.number(0, classes.fields(first) - 1);
            } else if (second == Operands.SLOT) {
                readSlot(in, classes, first);
            } else {
                readOperand(in, classes, second, locals);
            }
        }

        /** An operand that can be looked at without the one before it. */
        private static int readOperand(Source in, Classes classes, int kind, int locals) {
            switch (kind) {
                case Operands.LOCAL:
                    return in.number(0, locals - 1);
                case Operands.CONDITION:
                    return in.number(0, Operands.LAST_CONDITION);
                case Operands.CLASS:
                    return in.number(0, classes.size() - 1);
                case Operands.CONTENT:
                    return in.number(0, classes.size());
                default:
                    in.skip(Operands.width(kind));
                    return NONE;
            }
        }

        private static void readSlot(Source in, Classes classes, int c) {
            int slot = in.next();
            if (classes.slotMethod(c, slot) == NONE) {
                in.stopAt(in.place());
                return;
            }
            in.number(slot, slot);
        }

        private void markBegin(int place) {
            int word = place >> 5;
            if (word >= 0 && word < begins.length) {
                begins[word] |= 1 << (place & 31);
            }
        }

        /** Whether an instruction of method m begins at a place of its code. */
        boolean beginsAt(int m, int place) {
            if (place < 0 || place >= length(m)) {
                return false;
            }
            int at = starts[m] + place;
            int word = at >> 5;
            return word >= 0 && word < begins.length && (begins[word] >>> (at & 31) & 1) == 1;
        }

        int length(int m) {
            return m >= 0 && m < Methods.MOST ? lengths[m] : 0;
        }

        int size(int m) {
            return m >= 0 && m < Methods.MOST ? counts[m] : 0;
        }

        int placeOf(Source image, int m, int k) {
            if (k < 0 || k >= size(m)) {
                return NONE;
            }
            int at = starts[m];
            for (int i = 0; i < k; i++) {
                at += Operands.length(image.byteAt(at));
            }
            return at - starts[m];
        }

        int fact(Source image, int m, int place, int what) {
            if (!beginsAt(m, place)) {
                return NONE;
            }
            int at = starts[m] + place;
            int code = image.byteAt(at);
            int first = Operands.width(Operands.first(code));
            switch (what) {
                case 0:
                    return code;
                case 1:
                    return image.valueAt(at + 1, first);
                case 2:
                    return image.valueAt(at + 1 + first, Operands.width(Operands.second(code)));
                case 3:
                    return place + Operands.length(code);
                default:
                    return NONE;
            }
        }

        /** The first operand in the code of m that is no method or no place of it; NONE. */
        int misfit(Source image, int m, int methods) {
            int count = size(m);
            int at = count > 0 ? starts[m] : 0;
            for (int i = 0; i < count; i++) {
                int code = image.byteAt(at);
                int first = Operands.first(code);
                int second = at + 1 + Operands.width(first);
                if (first == Operands.METHOD && image.byteAt(at + 1) >= methods) {
                    return at + 1;
                }
                if (first == Operands.PLACE && !beginsAt(m, image.valueAt(at + 1, 2))) {
                    return at + 1;
                }
                if (Operands.second(code) == Operands.PLACE && !beginsAt(m, image.valueAt(second, 2))) {
                    return second;
                }
                at += Operands.length(code);
            }
            return NONE;
        }
    }

    /** The handlers of the methods: where they lie in the image. */
    private static final class Handlers {
        private static final int MOST = 8;
        private static final int BYTES = 7;
        private static final int TO = 2;
        private static final int CLASS = 4;
        private static final int PLACE = 5;

        private final int[] starts = new int[Methods.MOST];
        private final int[] counts = new int[Methods.MOST];

        void read(Source in, int classes, int m) {
            int count = Math.max(in.number(0, MOST), 0);
            starts[m] = in.place();
            counts[m] = count;
            for (int k = 0; k < count; k++) {
                in.skip(CLASS);
                in.number(0, classes - 1);
                in.skip(BYTES - PLACE);
            }
        }

        int size(int m) {
            return m >= 0 && m < Methods.MOST ? counts[m] : 0;
        }

        int fact(Source image, int m, int k, int what) {
            if (k < 0 || k >= size(m)) {
                return NONE;
            }
            int at = starts[m] + k * BYTES;
            switch (what) {
                case 0:
                    return image.valueAt(at, 2);
                case 1:
                    return image.valueAt(at + TO, 2);
                case 2:
                    return image.byteAt(at + CLASS);
                case 3:
                    return image.valueAt(at + PLACE, 2);
                default:
                    return NONE;
            }
        }

        /** The first place in the handlers of m that is none of its code; NONE. */
        int misfit(Source image, Code code, int m) {
            int count = size(m);
            int at = count > 0 ? starts[m] : 0;
            for (int k = 0; k < count; k++) {
                int from = image.valueAt(at, 2);
                int to = image.valueAt(at + TO, 2);
                if (from >= to || !code.beginsAt(m, from)) {
                    return at;
                }
                if (to != code.length(m) && !code.beginsAt(m, to)) {
                    return at + TO;
                }
                if (!code.beginsAt(m, image.valueAt(at + PLACE, 2))) {
                    return at + PLACE;
                }
                at += BYTES;
            }
            return NONE;
        }
    }

    /** The methods of an image, and which of them is the first one. */
    private static final class Methods {
        static final int MOST = 64;
        private static final int MOST_TOLD = 7;
        private static final int PARAMETERS = 8;
        private static final int MOST_PLACES = 12;

        private int count;
        private int first = NONE;
        private final int[] owners = new int[MOST];
        private final int[] parameterCounts = new int[MOST];
        private final int[] parameterTypes = new int[MOST * PARAMETERS];
        private final int[] gives = new int[MOST];
        private final int[] locals = new int[MOST];
        private final int[] stacks = new int[MOST];
        private final Code code = new Code();
        private final Handlers handlers = new Handlers();

        void clear() {
            count = 0;
            first = NONE;
            code.clear();
        }

        int size() {
            return count;
        }

        int first() {
            return first;
        }

        int instructions() {
            return code.total();
        }

        private boolean has(int m) {
            return m >= 0 && m < count && m < MOST;
        }

        void read(Source in, Classes classes) {
            clear();
            count = Math.max(in.number(1, MOST), 0);
            for (int m = 0; m < count && !in.stopped(); m++) {
                readHead(in, classes.size(), m);
                code.read(in, classes, m, locals[m]);
                handlers.read(in, classes.size(), m);
            }
            readFirst(in);
        }

        private void readHead(Source in, int classes, int m) {
            int owner = in.numberOrNothing(classes - 1);
            owners[m] = owner == NOTHING ? NONE : owner;
            readParameters(in, classes, m);
            int type = in.typeOrNothing(classes);
            gives[m] = type == NOTHING ? NONE : type;
            locals[m] = in.number(parameterCounts[m], MOST_PLACES);
            stacks[m] = in.number(0, MOST_PLACES - locals[m]);
        }

        private void readParameters(Source in, int classes, int m) {
            int before = owners[m] == NONE ? 0 : 1;
            if (before == 1) {
                parameterTypes[m * PARAMETERS] = owners[m] + 1;
            }
            int told = Math.max(in.number(0, MOST_TOLD), 0);
            for (int i = 0; i < told; i++) {
                parameterTypes[m * PARAMETERS + before + i] = in.type(classes);
            }
            parameterCounts[m] = before + told;
        }

        private void readFirst(Source in) {
            int m = in.next();
            if (in.stopped()) {
                return;
            }
            if (!has(m) || owners[m] != NONE || parameterCounts[m] != 0) {
                in.stopAt(in.place());
                return;
            }
            first = in.number(m, m);
        }

        int fact(Source image, int m, int what, int k) {
            if (!has(m)) {
                return NONE;
            }
            switch (what) {
                case 0:
                    return owners[m];
                case 1:
                    return parameterCounts[m];
                case 2:
                    return parameterType(m, k);
                case 3:
                    return gives[m];
                case 4:
                    return locals[m];
                case 5:
                    return stacks[m];
                case 6:
                    return code.length(m);
                case 7:
                    return code.size(m);
                case 8:
                    return code.placeOf(image, m, k);
                case 9:
                    return handlers.size(m);
                default:
                    return NONE;
            }
        }

        private int parameterType(int m, int k) {
            return k >= 0 && k < parameterCounts[m] && k < PARAMETERS
                ? parameterTypes[m * PARAMETERS + k] : NONE;
        }

        int handlerFact(Source image, int m, int k, int what) {
            return has(m) ? handlers.fact(image, m, k, what) : NONE;
        }

        int instructionFact(Source image, int m, int place, int what) {
            return has(m) ? code.fact(image, m, place, what) : NONE;
        }

        /**
         * The first byte that does not fit to what was read behind it; NONE. The
         * search goes as the image does, so what it finds first stands first.
         */
        int misfit(Source image, Classes classes) {
            for (int c = 0; c < classes.size(); c++) {
                int wrong = misfitSlot(classes, c);
                if (wrong != NONE) {
                    return wrong;
                }
            }
            for (int m = 0; m < count; m++) {
                int inCode = code.misfit(image, m, count);
                int wrong = inCode != NONE ? inCode : handlers.misfit(image, code, m);
                if (wrong != NONE) {
                    return wrong;
                }
            }
            return NONE;
        }

        private int misfitSlot(Classes classes, int c) {
            for (int k = 0; k < Classes.SLOTS; k++) {
                int place = classes.slotPlace(c, k);
                if (place != NONE && !fitsSlot(classes, c, k)) {
                    return place;
                }
            }
            return NONE;
        }

        private boolean fitsSlot(Classes classes, int c, int k) {
            int own = classes.slotMethod(c, k);
            int above = classes.slotMethod(classes.upper(c), k);
            return has(own) && owners[own] == c && (above == NONE || standsFor(own, above));
        }

        /** Whether a method can be called where another one is meant. */
        private boolean standsFor(int m, int other) {
            if (!has(m) || !has(other) || gives[m] != gives[other]
                || parameterCounts[m] != parameterCounts[other]) {
                return false;
            }
            for (int k = 1; k < parameterCounts[m]; k++) {
                if (parameterType(m, k) != parameterType(other, k)) {
                    return false;
                }
            }
            return true;
        }
    }
}
