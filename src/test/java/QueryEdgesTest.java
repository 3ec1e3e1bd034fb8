import java.util.Arrays;

/**
 * Promises 4 to 10, each argument below 0, at its last number and at one more, and
 * as far off as can be, on an image with the most of everything and on the least one.
 */
public final class QueryEdgesTest {
    private static final Check CHECK = new Check("promises 4 to 10, edges");
    private static final int[] MOST_TYPES = {64, 0, 96, 32, 1, 65, 0, 64, 96, 32, 1, 65, 0, 64, 96};
    private static final int[] MOST_TOLD = {96, 1, 32, 64, 65, 0, 2};

    public static void main(String[] args) {
        for (Plan plan : new Plan[] {most(), new Plan(1, 1)}) {
            Loaded object = new Loaded(plan.write().bytes());
            CHECK.due("end", object.answer(), plan.instructions());
            count(plan, object);
            classes(plan, object);
            methods(plan, object);
            handlers(plan, object);
            instructions(plan, object);
            thrown(plan, object);
        }
        withoutAnImage();
        isA();
        isAOfNoClass();
        operands();
        CHECK.end();
    }

    /** 32 classes, of which 1 is below 0 and 31 below 1; 64 methods, 0 with the most code and handlers. */
    private static Plan most() {
        Plan plan = new Plan(32, 1);
        plan.kind(0).fields = MOST_TYPES;
        plan.kind(0).slots = new int[16][];
        for (int k = 0; k < 16; k++) {
            plan.kind(0).slots[k] = new int[] {k, plan.addOwned(0, 96, MOST_TOLD)};
        }
        plan.kind(1).upper = 0;
        plan.kind(1).slots = new int[][] {{15, plan.addOwned(1, 96, MOST_TOLD)}};
        plan.kind(31).upper = 1;
        plan.thrown = new int[] {31, 0, 30, 1, 31};
        while (plan.routines.size() < 63) {
            plan.routines.add(new Plan.Routine());
        }
        plan.addOwned(255, 0, MOST_TOLD);
        Plan.Routine routine = plan.routine(0);
        routine.locals = 12;
        routine.code = new int[500][];
        Arrays.fill(routine.code, new int[] {2, 11});
        routine.handlers = new int[8][];
        for (int k = 0; k < 8; k++) {
            routine.handlers[k] = new int[] {2 * k, 1000 - 2 * k, 31 - k, 998 - 2 * k};
        }
        plan.routine(62).stack = 12;
        plan.first = 62;
        return plan;
    }

    private static int item(int[] row, int k) {
        return k >= 0 && k < row.length ? row[k] : -1;
    }

    /** Promise 4, "NONE for another what". */
    private static void count(Plan plan, Loaded object) {
        int[] due = {plan.kinds.size(), plan.routines.size(), plan.instructions(), plan.first};
        for (int what : Numbers.all()) {
            CHECK.due("count(" + what + ")", object.x().count(what), item(due, what));
        }
    }

    /** What is told and what comes from above, of a class of either plan. */
    private static int[] fieldsOf(Plan plan, int c) {
        return plan.kinds.size() == 32 && (c == 0 || c == 1 || c == 31) ? MOST_TYPES : new int[0];
    }

    private static int[] slotsOf(Plan plan, int c) {
        if (plan.kinds.size() < 32 || c != 0 && c != 1 && c != 31) {
            return new int[0];
        }
        return new int[] {1, 2, 3, 4, 5, 6, 7, 8, 9, 10, 11, 12, 13, 14, 15, c == 0 ? 16 : 17};
    }

    /** Promise 5, "NONE when there is none of these." */
    private static void classes(Plan plan, Loaded object) {
        for (int c : Numbers.all()) {
            for (int what : Numbers.all()) {
                for (int k : what == 2 || what == 3 ? Numbers.all() : Numbers.few()) {
                    CHECK.due("classOf(" + c + ", " + what + ", " + k + ")", object.x().classOf(c, what, k),
                        classFact(plan, c, what, k));
                }
            }
        }
    }

    private static int classFact(Plan plan, int c, int what, int k) {
        if (c < 0 || c >= plan.kinds.size()) {
            return -1;
        }
        int upper = plan.kind(c).upper;
        int[] facts = {
            upper == 255 ? -1 : upper, fieldsOf(plan, c).length, item(fieldsOf(plan, c), k), item(slotsOf(plan, c), k),
        };
        return item(facts, what);
    }

    /** Promise 7, "NONE when there is none of these." */
    private static void methods(Plan plan, Loaded object) {
        for (int m : Numbers.all()) {
            for (int what : Numbers.all()) {
                for (int k : what == 2 || what == 8 ? Numbers.all() : Numbers.few()) {
                    CHECK.due("method(" + m + ", " + what + ", " + k + ")", object.x().method(m, what, k),
                        methodFact(plan, m, what, k));
                }
            }
        }
        int last = plan.routine(0).code.length - 1;
        CHECK.due("place of the last instruction", object.x().method(0, 8, last),
            Plan.lengthOf(plan.routine(0).code) - plan.routine(0).code[last].length);
        CHECK.due("place of one more", object.x().method(0, 8, last + 1), -1);
    }

    private static int methodFact(Plan plan, int m, int what, int k) {
        if (m < 0 || m >= plan.routines.size()) {
            return -1;
        }
        Plan.Routine routine = plan.routine(m);
        boolean owned = routine.owner != 255;
        int[] parameters = routine.told;
        if (owned) {
            parameters = new int[routine.told.length + 1];
            parameters[0] = routine.owner + 1;
            System.arraycopy(routine.told, 0, parameters, 1, routine.told.length);
        }
        int size = routine.code.length;
        int[] facts = {
            owned ? routine.owner : -1, parameters.length, item(parameters, k), routine.gives == 255 ? -1 : routine.gives,
            routine.locals, routine.stack, Plan.lengthOf(routine.code), size,
            k >= 0 && k < size ? k * routine.code[0].length : -1, routine.handlers.length,
        };
        return item(facts, what);
    }

    /** Promise 8, "NONE." */
    private static void handlers(Plan plan, Loaded object) {
        for (int m : Numbers.all()) {
            for (int k : Numbers.all()) {
                for (int what : Numbers.few()) {
                    boolean is = m >= 0 && m < plan.routines.size() && k >= 0 && k < plan.routine(m).handlers.length;
                    CHECK.due("handler(" + m + ", " + k + ", " + what + ")", object.x().handler(m, k, what),
                        is ? item(plan.routine(m).handlers[k], what) : -1);
                }
            }
        }
    }

    /** Promise 9, "NONE when none begins there, or for another what." */
    private static void instructions(Plan plan, Loaded object) {
        for (int m : Numbers.all()) {
            for (int place : Numbers.all()) {
                for (int what : Numbers.few()) {
                    CHECK.due("instruction(" + m + ", " + place + ", " + what + ")",
                        object.x().instruction(m, place, what), instructionFact(plan, m, place, what));
                }
            }
        }
        for (int place = -20; place < 1100; place++) {
            CHECK.due("instruction(0, " + place + ", 0)", object.x().instruction(0, place, 0),
                instructionFact(plan, 0, place, 0));
        }
    }

    /** In the plans all instructions of a method are the same. */
    private static int instructionFact(Plan plan, int m, int place, int what) {
        if (m < 0 || m >= plan.routines.size()) {
            return -1;
        }
        int[][] code = plan.routine(m).code;
        if (place < 0 || place >= Plan.lengthOf(code) || place % code[0].length != 0) {
            return -1;
        }
        int[] facts = {code[0][0], code[0].length == 2 ? code[0][1] : 0, 0, place + code[0].length};
        return item(facts, what);
    }

    /** Promise 10, "fault k (0 .. 4). NONE." */
    private static void thrown(Plan plan, Loaded object) {
        for (int k : Numbers.all()) {
            CHECK.due("thrown(" + k + ")", object.x().thrown(k), item(plan.thrown, k));
        }
    }

    /** Promise 4, "0 without an image (of 3 NONE)", and all others: also behind an image that was wrong. */
    private static void withoutAnImage() {
        int[] wrong = most().write().bytes();
        wrong[wrong.length - 1] = 1;
        Loaded object = new Loaded(wrong);
        CHECK.due("end", object.answer(), -3 - (wrong.length - 1));
        for (int what : Numbers.all()) {
            CHECK.due("count(" + what + ")", object.x().count(what), what >= 0 && what <= 2 ? 0 : -1);
            CHECK.due("thrown(" + what + ")", object.x().thrown(what), -1);
        }
        for (int a : Numbers.few()) {
            for (int b : Numbers.few()) {
                CHECK.due("isA(" + a + ", " + b + ")", object.x().isA(a, b), false);
                for (int c : Numbers.few()) {
                    String arguments = "(" + a + ", " + b + ", " + c + ")";
                    CHECK.due("classOf" + arguments, object.x().classOf(a, b, c), -1);
                    CHECK.due("method" + arguments, object.x().method(a, b, c), -1);
                    CHECK.due("handler" + arguments, object.x().handler(a, b, c), -1);
                    CHECK.due("instruction" + arguments, object.x().instruction(a, b, c), -1);
                }
            }
        }
    }

    /** Promise 6, "Whether a class is another one, or that is above it", at any distance. */
    private static void isA() {
        Plan chain = new Plan(32, 1);
        Plan tree = new Plan(32, 1);
        for (int c = 1; c < 32; c++) {
            chain.kind(c).upper = c - 1;
            tree.kind(c).upper = (c - 1) / 2;
        }
        Loaded ofChain = new Loaded(chain.write().bytes());
        Loaded ofTree = new Loaded(tree.write().bytes());
        Loaded apart = new Loaded(new Plan(32, 1).write().bytes());
        for (int c = 0; c < 32; c++) {
            for (int above = 0; above < 32; above++) {
                String call = "isA(" + c + ", " + above + ")";
                CHECK.due("in a chain: " + call, ofChain.x().isA(c, above), above <= c);
                CHECK.due("without upper classes: " + call, apart.x().isA(c, above), above == c);
                int at = c;
                while (at > above) {
                    at = (at - 1) / 2;
                }
                CHECK.due("in a tree: " + call, ofTree.x().isA(c, above), at == above);
            }
        }
    }

    /** Promise 6: a number that is no class, on either side and on both. */
    private static void isAOfNoClass() {
        for (int classes : new int[] {1, 2, 32}) {
            Loaded object = new Loaded(new Plan(classes, 1).write().bytes());
            for (int no : Numbers.all()) {
                if (no < 0 || no >= classes) {
                    CHECK.due("isA(" + no + ", 0)", object.x().isA(no, 0), false);
                    CHECK.due("isA(0, " + no + ")", object.x().isA(0, no), false);
                    CHECK.due("isA(" + no + ", last)", object.x().isA(no, classes - 1), false);
                    CHECK.due("isA(last, " + no + ")", object.x().isA(classes - 1, no), false);
                    CHECK.due("isA(" + no + ", " + no + ")", object.x().isA(no, no), false);
                }
            }
        }
    }

    /** Promise 9, "its operands, a place or i being one (1, 2; 0 when it has none)". */
    private static void operands() {
        int[][] instructions = {
            {0, 0x80, 0, 0, 0}, {0, 255, 255, 255, 255}, {0, 127, 255, 255, 255}, {0, 0x80, 0, 0, 1}, {4},
            {25, 1, 4}, {19, 5, 1, 3}, {21, 0, 20}, {26, 2}, {27, 2, 14}, {35, 3}, {36, 1, 15}, {37},
        };
        int[][] due = {
            {Numbers.MIN, 0}, {-1, 0}, {Numbers.MAX, 0}, {Numbers.MIN + 1, 0}, {0, 0},
            {260, 0}, {5, 259}, {20, 0}, {2, 0}, {2, 14}, {3, 0}, {1, 15}, {0, 0},
        };
        Plan plan = new Plan(3, 4);
        plan.kind(1).slots = new int[][] {{15, plan.addOwned(1, 255)}};
        plan.kind(2).fields = new int[15];
        plan.routine(0).code = Plan.returns(300);
        System.arraycopy(instructions, 0, plan.routine(0).code, 0, instructions.length);
        Loaded object = new Loaded(plan.write().bytes());
        CHECK.due("end of all operands", object.answer(), plan.instructions());
        int place = 0;
        for (int i = 0; i < instructions.length; i++) {
            String name = "instruction " + Arrays.toString(instructions[i]) + ": ";
            CHECK.due(name + "first byte", object.x().instruction(0, place, 0), instructions[i][0]);
            CHECK.due(name + "operand 1", object.x().instruction(0, place, 1), due[i][0]);
            CHECK.due(name + "operand 2", object.x().instruction(0, place, 2), due[i][1]);
            CHECK.due(name + "place behind it", object.x().instruction(0, place, 3), place + instructions[i].length);
            CHECK.due(name + "another what", object.x().instruction(0, place, 4), -1);
            for (int inside = place + 1; inside < place + instructions[i].length; inside++) {
                for (int what = 0; what < 4; what++) {
                    CHECK.due(name + "within it", object.x().instruction(0, inside, what), -1);
                }
            }
            place += instructions[i].length;
        }
    }
}
