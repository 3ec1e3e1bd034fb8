import java.util.Arrays;

/**
 * "Terms", AN IMAGE: each number with a range or a bound, at the smallest and the
 * largest that may stand there and at the next one on either side.
 */
public final class ImageEdgesTest {
    private static final Judge JUDGE = new Judge("an image's numbers");
    private static final int[] CLASS_COUNTS = {1, 2, 3, 31, 32};

    public static void main(String[] args) {
        numberOfClasses();
        upperClass();
        fieldsAtMost15();
        fieldsOfThreeClasses();
        numberOfSlots();
        slotIn0To15();
        slotsRising();
        slotsRisingInEachClassAlone();
        slotsOfTheUpperClass();
        thrownClasses();
        numberOfMethods();
        owner();
        parametersTold();
        localsAndStack();
        asManyLocalsAsParameters();
        bytesOfCode();
        numberOfHandlers();
        classOfHandler();
        firstMethod();
        JUDGE.end();
    }

    /** "the number C of classes, 1 .. 32" */
    private static void numberOfClasses() {
        for (int count : new int[] {0, 1, 2, 31, 32, 33, 64, 128, 255}) {
            JUDGE.judge("C = " + count, new Plan(count, 1), count >= 1 && count <= 32, "classes");
        }
    }

    /** "its UPPER class (less than c, or 255: none)" */
    private static void upperClass() {
        for (int c : new int[] {0, 1, 2, 15, 31}) {
            for (int upper = 0; upper < 256; upper++) {
                Plan plan = new Plan(32, 1);
                plan.kind(c).upper = upper;
                JUDGE.judge("upper class " + upper + " of class " + c, plan, upper < c || upper == 255, "upper " + c);
            }
        }
    }

    /** "Fields are those of the upper class, then its own: at most 15." */
    private static void fieldsAtMost15() {
        for (int own : new int[] {0, 1, 14, 15, 16, 17, 128, 255}) {
            Plan plan = new Plan(1, 1);
            plan.kind(0).fields = new int[own];
            JUDGE.judge(own + " fields", plan, own <= 15, "fields 0");
        }
        for (int above = 0; above <= 15; above++) {
            for (int own : new int[] {0, 1, 15 - above, 16 - above, 17 - above, 16, 256 - above, 255}) {
                if (own < 256) {
                    Plan plan = new Plan(2, 1);
                    plan.kind(0).fields = new int[above];
                    plan.kind(1).upper = 0;
                    plan.kind(1).fields = new int[own];
                    JUDGE.judge(own + " fields below " + above, plan, above + own <= 15, "fields 1");
                    plan.kind(1).upper = 255;
                    JUDGE.judge(own + " fields beside " + above, plan, own <= 15, "fields 1");
                }
            }
        }
    }

    /** "Fields are those of the upper class, then its own": those of the upper class from its upper one, too. */
    private static void fieldsOfThreeClasses() {
        for (int lowest = 0; lowest < 6; lowest++) {
            Plan plan = new Plan(3, 1);
            plan.kind(0).fields = new int[] {3, 0, 1, 2, 64, 65};
            plan.kind(1).fields = new int[] {66, 67, 0, 64, 1};
            plan.kind(1).upper = 0;
            plan.kind(2).fields = Arrays.copyOf(new int[] {67, 3, 66, 2, 65, 1}, lowest);
            plan.kind(2).upper = 1;
            JUDGE.judge("6, 5 and " + lowest + " fields", plan, lowest <= 4, "fields 2");
            if (lowest == 4) {
                CodeImages x = JUDGE.right("6, 5 and 4 fields", plan);
                int[] due = {3, 0, 1, 2, 64, 65, 66, 67, 0, 64, 1, 67, 3, 66, 2};
                for (int k = 0; k < 15; k++) {
                    JUDGE.check().due("type of field " + k, x.classOf(2, 2, k), due[k]);
                }
                JUDGE.check().due("fields", x.classOf(2, 1, 0), 15);
                JUDGE.check().due("type of field 15", x.classOf(2, 2, 15), -1);
            }
        }
    }

    /** "how many SLOTS it tells": as many as 0 .. 15 are. */
    private static void numberOfSlots() {
        for (int count : new int[] {0, 1, 2, 15, 16, 17, 18, 128, 255}) {
            Plan plan = new Plan(1, 1);
            int m = plan.addOwned(0, 255);
            plan.kind(0).slots = new int[count][];
            for (int k = 0; k < count; k++) {
                plan.kind(0).slots[k] = new int[] {k, m};
            }
            JUDGE.judge(count + " slots", plan, count <= 16, "slots 0");
        }
    }

    /** "the slot (0 .. 15" */
    private static void slotIn0To15() {
        for (int slot = 0; slot < 256; slot++) {
            Plan plan = planOfSlots(slot);
            JUDGE.judge("slot " + slot, plan, slot <= 15, "slot 0 0");
        }
    }

    private static Plan planOfSlots(int... slots) {
        Plan plan = new Plan(1, 1);
        int m = plan.addOwned(0, 255);
        plan.kind(0).slots = Arrays.stream(slots).mapToObj(slot -> new int[] {slot, m}).toArray(int[][]::new);
        return plan;
    }

    /** "rising": not the same again, not a lower one. */
    private static void slotsRising() {
        for (int slot = 0; slot < 16; slot++) {
            for (int next = 0; next < 18; next++) {
                JUDGE.judge("slots " + slot + ", " + next, planOfSlots(slot, next), next > slot && next <= 15,
                    "slot 0 1");
            }
            JUDGE.wrong("slots " + slot + ", 255", planOfSlots(slot, 255), "slot 0 1");
        }
        JUDGE.right("slots 3, 7, 8", planOfSlots(3, 7, 8));
        JUDGE.wrong("slots 3, 7, 7", planOfSlots(3, 7, 7), "slot 0 2");
        JUDGE.wrong("slots 3, 7, 4", planOfSlots(3, 7, 4), "slot 0 2");
        JUDGE.wrong("slots 3, 7, 3", planOfSlots(3, 7, 3), "slot 0 2");
        JUDGE.wrong("slots 3, 3, 7", planOfSlots(3, 3, 7), "slot 0 1");
        JUDGE.wrong("slots 16, 3, 3", planOfSlots(16, 3, 3), "slot 0 0");
    }

    /** A class below may tell lower slots, and the same ones, as its upper class and as the class before. */
    private static void slotsRisingInEachClassAlone() {
        for (int upper : new int[] {255, 0}) {
            for (int slot = 0; slot < 17; slot++) {
                Plan plan = new Plan(2, 1);
                plan.kind(0).slots = new int[][] {{15, plan.addOwned(0, 255)}};
                plan.kind(1).upper = upper;
                plan.kind(1).slots = new int[][] {{slot, plan.addOwned(1, 255)}};
                JUDGE.judge("slot " + slot + " behind a class with slot 15", plan, slot <= 15, "slot 1 0");
            }
        }
    }

    /** "Slots are those of the upper class, but where it tells another method." */
    private static void slotsOfTheUpperClass() {
        Plan plan = new Plan(4, 1);
        int a0 = plan.addOwned(0, 255);
        int a7 = plan.addOwned(0, 255);
        int a15 = plan.addOwned(0, 255);
        int b7 = plan.addOwned(1, 255);
        int b8 = plan.addOwned(1, 255);
        int c0 = plan.addOwned(2, 255);
        plan.kind(0).slots = new int[][] {{0, a0}, {7, a7}, {15, a15}};
        plan.kind(1).slots = new int[][] {{7, b7}, {8, b8}};
        plan.kind(1).upper = 0;
        plan.kind(2).slots = new int[][] {{0, c0}};
        plan.kind(2).upper = 1;
        CodeImages x = JUDGE.right("slots of four classes", plan);
        int[][] due = new int[4][17];
        for (int[] row : due) {
            Arrays.fill(row, -1);
        }
        due[0][0] = a0;
        due[0][7] = a7;
        due[0][15] = a15;
        due[1] = due[0].clone();
        due[1][7] = b7;
        due[1][8] = b8;
        due[2] = due[1].clone();
        due[2][0] = c0;
        for (int c = 0; c < 4; c++) {
            for (int k = 0; k < 17; k++) {
                JUDGE.check().due("slot " + k + " of class " + c, x.classOf(c, 3, k), due[c][k]);
            }
        }
    }

    /** "five classes that the machine throws" */
    private static void thrownClasses() {
        for (int count : CLASS_COUNTS) {
            for (int k = 0; k < 5; k++) {
                for (int thrown = 0; thrown < 256; thrown++) {
                    Plan plan = new Plan(count, 1);
                    plan.thrown[k] = thrown;
                    JUDGE.judge("thrown " + k + " = " + thrown + " of " + count, plan, thrown < count, "thrown " + k);
                }
            }
        }
    }

    /** "the number M of methods, 1 .. 64" */
    private static void numberOfMethods() {
        for (int count : new int[] {0, 1, 2, 63, 64, 65, 128, 255}) {
            JUDGE.judge("M = " + count, new Plan(1, count), count >= 1 && count <= 64, "methods");
        }
    }

    /** "its OWNER, a class (255: none)" */
    private static void owner() {
        for (int count : CLASS_COUNTS) {
            for (int owner = 0; owner < 256; owner++) {
                Plan plan = new Plan(count, 2);
                plan.routine(1).owner = owner;
                plan.routine(1).locals = 1;
                JUDGE.judge("owner " + owner + " of " + count, plan, owner < count || owner == 255, "owner 1");
            }
        }
    }

    /** "how many parameters are told, at most 7", the owner's not being one of them. */
    private static void parametersTold() {
        for (int owner : new int[] {255, 0}) {
            for (int told : new int[] {0, 1, 2, 6, 7, 8, 9, 12, 128, 255}) {
                Plan plan = new Plan(1, 2);
                plan.routine(1).owner = owner;
                plan.routine(1).told = new int[told];
                plan.routine(1).locals = 12;
                JUDGE.judge(told + " parameters told, owner " + owner, plan, told <= 7, "told 1");
            }
        }
    }

    /** "how many locals L it has, how many places of a stack S, L + S at most 12" */
    private static void localsAndStack() {
        int[] numbers = {0, 1, 2, 3, 4, 5, 6, 7, 8, 9, 10, 11, 12, 13, 14, 128, 244, 250, 255};
        for (int locals : numbers) {
            for (int stack : numbers) {
                Plan plan = new Plan(1, 1);
                plan.routine(0).locals = locals;
                plan.routine(0).stack = stack;
                JUDGE.judge("L = " + locals + ", S = " + stack, plan, locals + stack <= 12,
                    locals > 12 ? "locals 0" : "stack 0");
            }
        }
    }

    /** "Its PARAMETERS are, with an owner, one of that class, then those that are told; there are at least as many locals." */
    private static void asManyLocalsAsParameters() {
        for (int owner : new int[] {255, 0, 1}) {
            for (int told = 0; told <= 7; told++) {
                int parameters = told + (owner == 255 ? 0 : 1);
                for (int locals = 0; locals <= 12; locals++) {
                    Plan plan = new Plan(2, 2);
                    plan.routine(1).owner = owner;
                    plan.routine(1).told = new int[told];
                    plan.routine(1).locals = locals;
                    JUDGE.judge(locals + " locals of " + parameters + " parameters", plan, locals >= parameters,
                        "locals 1");
                }
            }
        }
    }

    /** "how many bytes its code has (two bytes), 1 .. 1,000" */
    private static void bytesOfCode() {
        for (int length : new int[] {1, 2, 255, 256, 257, 767, 768, 999, 1000}) {
            Plan plan = new Plan(1, 1);
            plan.routine(0).code = Plan.returns(length);
            CodeImages x = JUDGE.right(length + " bytes of code", plan);
            JUDGE.check().due(length + " bytes of code: method(0, 6, 0)", x.method(0, 6, 0), length);
        }
        for (int length : new int[] {0, 1001, 1002, 1023}) {
            Plan plan = new Plan(1, 1);
            plan.routine(0).code = Plan.returns(length);
            JUDGE.wrong(length + " bytes of code", plan, "length's low 0");
        }
        for (int length : new int[] {1024, 1025, 2000, 4096}) {
            Plan plan = new Plan(1, 1);
            plan.routine(0).code = Plan.returns(length);
            JUDGE.wrong(length + " bytes of code", plan, "length 0");
        }
        Plan plan = new Plan(1, 1);
        plan.routine(0).length = 65535;
        JUDGE.wrong("65535 bytes of code", plan, "length 0");
    }

    /** "how many HANDLERS, at most 8" */
    private static void numberOfHandlers() {
        for (int count : new int[] {0, 1, 2, 7, 8, 9, 10, 128, 255}) {
            Plan plan = new Plan(1, 1);
            plan.routine(0).handlers = new int[count][];
            Arrays.fill(plan.routine(0).handlers, new int[] {0, 1, 0, 0});
            JUDGE.judge(count + " handlers", plan, count <= 8, "handlers 0");
        }
    }

    /** Of each handler "a class" */
    private static void classOfHandler() {
        for (int count : CLASS_COUNTS) {
            for (int c = 0; c < 256; c++) {
                for (int k : new int[] {0, 7}) {
                    Plan plan = new Plan(count, 1);
                    plan.routine(0).handlers = new int[8][];
                    Arrays.fill(plan.routine(0).handlers, new int[] {0, 1, 0, 0});
                    plan.routine(0).handlers[k] = new int[] {0, 1, c, 0};
                    JUDGE.judge("class " + c + " of " + count + " in handler " + k, plan, c < count, "class 0 " + k);
                }
            }
        }
    }

    /** "a method without owner and parameters: the first one" */
    private static void firstMethod() {
        for (int first = 0; first < 256; first++) {
            Plan plan = new Plan(1, 1);
            plan.addOwned(0, 255);
            plan.addOwned(255, 255, 0);
            plan.addOwned(0, 255, 0);
            plan.addOwned(255, 0);
            plan.first = first;
            JUDGE.judge("first method " + first, plan, first == 0 || first == 4, "first");
        }
        for (int first = 0; first < 256; first++) {
            Plan plan = new Plan(1, 64);
            plan.first = first;
            JUDGE.judge("first method " + first + " of 64", plan, first < 64, "first");
        }
        for (int owner : new int[] {255, 0}) {
            Plan plan = new Plan(1, 0);
            plan.addOwned(owner, 255, 0);
            JUDGE.wrong("no method without parameters, owner " + owner, plan, "first");
        }
    }
}
