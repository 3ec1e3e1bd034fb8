import java.util.Arrays;

/** "Terms", CODE: each instruction, and its operands at the edges of their ranges. */
public final class CodeEdgesTest {
    private static final Judge JUDGE = new Judge("code");
    private static final int[] CLASS_COUNTS = {1, 2, 3, 31, 32};
    /** The bytes of the instructions 0 to 41, the first byte being one of them. */
    private static final int[] LENGTHS = {
        5, 1, 2, 2, 1, 1, 1, 1, 1, 1, 1, 1, 1, 1, 1, 1, 1, 1, 1, 4, 4, 3, 3, 3, 3, 3,
        2, 3, 3, 2, 2, 2, 1, 1, 1, 2, 3, 1, 1, 1, 1, 1,
    };

    public static void main(String[] args) {
        eachInstruction();
        noInstruction();
        constAnyNumber();
        local();
        condition();
        classOperand();
        classBeforeFieldOrSlot();
        fieldOfClass();
        fieldsFromAbove();
        rowOf();
        slotOfClass();
        calledMethod();
        places();
        JUDGE.end();
    }

    /** A plan whose method 0 has the instruction and a RETURN behind it, and in which all operands 0 are right. */
    private static Plan planOf(int... instruction) {
        Plan plan = new Plan(1, 1);
        plan.kind(0).fields = new int[] {0};
        plan.kind(0).slots = new int[][] {{0, plan.addOwned(0, 255)}};
        plan.routine(0).locals = 1;
        plan.routine(0).code = new int[][] {instruction, {Plan.RETURN}};
        return plan;
    }

    private static void judge(String name, Plan plan, boolean right, String told, int operand, int due) {
        if (right) {
            CodeImages x = JUDGE.right(name, plan);
            JUDGE.check().due(name + ": operand " + operand, x.instruction(0, 0, operand), due);
        } else {
            JUDGE.wrong(name, plan, told);
        }
    }

    /** "CODE is instructions, one behind the other, each a byte and its operands" */
    private static void eachInstruction() {
        for (int code = 0; code < 42; code++) {
            int[] instruction = new int[LENGTHS[code]];
            instruction[0] = code;
            CodeImages x = JUDGE.right("instruction " + code, planOf(instruction));
            String name = "instruction " + code;
            JUDGE.check().due(name + ": first byte", x.instruction(0, 0, 0), code);
            JUDGE.check().due(name + ": operand 1", x.instruction(0, 0, 1), 0);
            JUDGE.check().due(name + ": operand 2", x.instruction(0, 0, 2), 0);
            JUDGE.check().due(name + ": behind it", x.instruction(0, 0, 3), LENGTHS[code]);
            JUDGE.check().due(name + ": the next", x.instruction(0, LENGTHS[code], 0), Plan.RETURN);
            JUDGE.check().due(name + ": place of the next", x.method(0, 8, 1), LENGTHS[code]);
        }
    }

    /** The first number that is no instruction, and those behind it. */
    private static void noInstruction() {
        for (int code = 42; code < 256; code++) {
            JUDGE.wrong("instruction " + code, planOf(code), "code 0 0 0");
            Plan last = planOf(37);
            last.routine(0).code = new int[][] {{4}, {code}};
            JUDGE.wrong("last instruction " + code, last, "code 0 1 0");
        }
    }

    /** "CONST i", "i: four, the highest first": any number can stand there. */
    private static void constAnyNumber() {
        int[] numbers = {
            0, 1, -1, 255, 256, 65535, 65536, 1 << 24, Integer.MAX_VALUE, Integer.MIN_VALUE, Integer.MIN_VALUE + 1,
            0x01020304, 0x80FF7F00, 0xFFFFFF00, 0x00FFFFFF,
        };
        for (int i : numbers) {
            Plan plan = planOf(0, i >> 24 & 255, i >> 16 & 255, i >> 8 & 255, i & 255);
            judge("CONST " + i, plan, true, "", 1, i);
        }
    }

    /** "2 LOAD n, 3 STORE n (n a local)" */
    private static void local() {
        for (int locals : new int[] {0, 1, 2, 11, 12}) {
            for (int n = 0; n < 256; n++) {
                for (int code = 2; code <= 3; code++) {
                    Plan plan = planOf(code, n);
                    plan.routine(0).locals = locals;
                    plan.routine(0).stack = 12 - locals;
                    judge("local " + n + " of " + locals, plan, n < locals, "code 0 0 1", 1, n);
                }
            }
        }
    }

    /** "19 IF q p, 20 IFC q p (q 0 .. 5)" */
    private static void condition() {
        for (int code = 19; code <= 20; code++) {
            for (int q = 0; q < 256; q++) {
                judge(code + " with q " + q, planOf(code, q, 0, 0), q <= 5, "code 0 0 1", 1, q);
            }
        }
    }

    /** "26 NEW c (a class)", "29 IS c; 30 CAST c" */
    private static void classOperand() {
        for (int code : new int[] {26, 29, 30}) {
            for (int classes : CLASS_COUNTS) {
                for (int c = 0; c < 256; c++) {
                    Plan plan = new Plan(classes, 1);
                    plan.routine(0).code = new int[][] {{code, c}};
                    judge(code + " with class " + c + " of " + classes, plan, c < classes, "code 0 0 1", 1, c);
                }
            }
        }
    }

    /** "27 GET c f, 28 PUT c f", "36 SEND c s": a class comes first, and is told first. */
    private static void classBeforeFieldOrSlot() {
        for (int code : new int[] {27, 28, 36}) {
            for (int classes : CLASS_COUNTS) {
                for (int c = 0; c < 256; c++) {
                    Plan plan = new Plan(classes, 1);
                    for (int kind = 0; kind < classes; kind++) {
                        plan.kind(kind).fields = new int[] {0};
                        plan.kind(kind).slots = new int[][] {{0, plan.addOwned(kind, 255)}};
                    }
                    plan.routine(0).code = new int[][] {{code, c, 0}};
                    judge(code + " with class " + c + " of " + classes, plan, c < classes, "code 0 0 1", 1, c);
                }
            }
            Plan plan = planOf(code, 1, 255);
            JUDGE.wrong(code + " with wrong class and wrong second operand", plan, "code 0 0 1");
        }
    }

    /** "a class and one of its fields" */
    private static void fieldOfClass() {
        for (int code = 27; code <= 28; code++) {
            for (int fields : new int[] {0, 1, 2, 14, 15}) {
                for (int f = 0; f < 256; f++) {
                    Plan plan = planOf(code, 0, f);
                    plan.kind(0).fields = new int[fields];
                    judge(code + " with field " + f + " of " + fields, plan, f < fields, "code 0 0 2", 2, f);
                }
            }
        }
    }

    /** A class's fields are also those of its upper class, and not those of a class below or beside it. */
    private static void fieldsFromAbove() {
        int[] due = {2, 5, 15, 1};
        for (int code = 27; code <= 28; code++) {
            for (int c = 0; c < 4; c++) {
                for (int f = 0; f < 17; f++) {
                    Plan plan = new Plan(4, 1);
                    plan.kind(0).fields = new int[2];
                    plan.kind(1).fields = new int[3];
                    plan.kind(1).upper = 0;
                    plan.kind(2).fields = new int[10];
                    plan.kind(2).upper = 1;
                    plan.kind(3).fields = new int[1];
                    plan.routine(0).code = new int[][] {{code, c, f}};
                    judge(code + " with field " + f + " of class " + c, plan, f < due[c], "code 0 0 2", 2, f);
                }
            }
        }
    }

    /** "31 ROW t (0 or 1 .. C: of ints, of a class)" */
    private static void rowOf() {
        for (int classes : CLASS_COUNTS) {
            for (int t = 0; t < 256; t++) {
                Plan plan = new Plan(classes, 1);
                plan.routine(0).code = new int[][] {{31, t}};
                judge("ROW " + t + " with " + classes, plan, t <= classes, "code 0 0 1", 1, t);
            }
        }
    }

    /** "36 SEND c s (a class and a slot that it has)": its own and those from above, not those from below. */
    private static void slotOfClass() {
        int[][] has = {{0, 7, 15}, {0, 3, 7, 15}, {0, 3, 7, 15}, {1}, {}};
        for (int c = 0; c < has.length; c++) {
            for (int s = 0; s < 256; s++) {
                Plan plan = new Plan(5, 1);
                plan.kind(0).slots = new int[][] {
                    {0, plan.addOwned(0, 255)}, {7, plan.addOwned(0, 255)}, {15, plan.addOwned(0, 255)},
                };
                plan.kind(1).slots = new int[][] {{3, plan.addOwned(1, 255)}, {7, plan.addOwned(1, 255)}};
                plan.kind(1).upper = 0;
                plan.kind(2).upper = 1;
                plan.kind(3).slots = new int[][] {{1, plan.addOwned(3, 255)}};
                plan.routine(0).code = new int[][] {{36, c, s}};
                int slot = s;
                judge("SEND " + c + " " + s, plan, Arrays.stream(has[c]).anyMatch(one -> one == slot),
                    "code 0 0 2", 2, s);
            }
        }
    }

    /** "35 CALL m (a method)": itself, too, and those behind it. */
    private static void calledMethod() {
        for (int methods : new int[] {1, 2, 63, 64}) {
            for (int m = 0; m < 256; m++) {
                Plan plan = new Plan(1, methods);
                plan.routine(0).code = new int[][] {{35, m}};
                judge("CALL " + m + " of " + methods, plan, m < methods, "code 0 0 1", 1, m);
            }
        }
    }

    /** "p: a place", of two bytes, the higher first: each instruction that has one, to each place of long code. */
    private static void places() {
        for (int code = 19; code <= 25; code++) {
            boolean second = code <= 20;
            int behind = LENGTHS[code];
            for (int place : new int[] {0, 1, 2, 3, 4, 5, 254, 255, 256, 257, 258, 998, 999, 1000, 1001, 65535}) {
                Plan plan = new Plan(1, 1);
                int[][] instructions = Plan.returns(1001 - behind);
                instructions[0] = second ? new int[] {code, 5, place >> 8, place & 255}
                    : new int[] {code, place >> 8, place & 255};
                plan.routine(0).code = instructions;
                judge(code + " to " + place, plan, place == 0 || place >= behind && place < 1000,
                    second ? "code 0 0 2" : "code 0 0 1", second ? 2 : 1, place);
            }
        }
    }
}
