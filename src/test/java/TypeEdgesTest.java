/** "Terms", TYPES: the first and the last type of each kind, and the numbers between and behind them. */
public final class TypeEdgesTest {
    private static final Judge JUDGE = new Judge("types");
    private static final int[] CLASS_COUNTS = {1, 2, 3, 31, 32};

    public static void main(String[] args) {
        for (int classes : CLASS_COUNTS) {
            for (int type = 0; type < 256; type++) {
                fieldOf(classes, type);
                lastFieldOf(classes, type);
                parameterOf(classes, type);
                givenOf(classes, type);
            }
        }
        typeOfOwner();
        JUDGE.end();
    }

    /** "0 an int; 1 .. C class 0 .. C - 1; 64 a row of ints; 65 .. 64 + C a row of class 0 .. C - 1" */
    private static boolean isType(int classes, int type) {
        return type == 0 || type >= 1 && type <= classes || type == 64 || type >= 65 && type <= 64 + classes;
    }

    private static void fieldOf(int classes, int type) {
        Plan plan = new Plan(classes, 1);
        plan.kind(0).fields = new int[] {type, 0};
        judge("field of type " + type + " with " + classes, plan, isType(classes, type), "field 0 0",
            x -> x.classOf(0, 2, 0), type);
    }

    /** A field of a class behind others, the last of its own. */
    private static void lastFieldOf(int classes, int type) {
        Plan plan = new Plan(classes, 1);
        plan.kind(classes - 1).fields = new int[] {0, 64, type};
        judge("last field of type " + type + " with " + classes, plan, isType(classes, type),
            "field " + (classes - 1) + " 2", x -> x.classOf(classes - 1, 2, 2), type);
    }

    private static void parameterOf(int classes, int type) {
        Plan plan = new Plan(classes, 1);
        plan.addOwned(255, 255, 64, type, 0);
        judge("parameter of type " + type + " with " + classes, plan, isType(classes, type), "parameter 1 1",
            x -> x.method(1, 2, 1), type);
        Plan first = new Plan(classes, 1);
        first.addOwned(0, 255, type);
        judge("only parameter of type " + type + " with " + classes, first, isType(classes, type), "parameter 1 0",
            x -> x.method(1, 2, 1), type);
        Plan last = new Plan(classes, 1);
        last.addOwned(0, 255, 0, 0, 0, 0, 0, 0, type);
        judge("last parameter of type " + type + " with " + classes, last, isType(classes, type), "parameter 1 6",
            x -> x.method(1, 2, 7), type);
    }

    /** "the type that it gives (255: nothing)" */
    private static void givenOf(int classes, int type) {
        Plan plan = new Plan(classes, 1);
        plan.routine(0).gives = type;
        judge("given type " + type + " with " + classes, plan, isType(classes, type) || type == 255, "gives 0",
            x -> x.method(0, 3, 0), type == 255 ? -1 : type);
    }

    /** The parameter that an owner brings is of its class, so of a type from 1 on. */
    private static void typeOfOwner() {
        Plan plan = new Plan(32, 1);
        for (int c = 0; c < 32; c++) {
            plan.addOwned(c, 255);
        }
        CodeImages x = JUDGE.right("a method of each class", plan);
        for (int c = 0; c < 32; c++) {
            JUDGE.check().due("type of the owner " + c, x.method(1 + c, 2, 0), 1 + c);
        }
    }

    private static void judge(String name, Plan plan, boolean right, String told,
        java.util.function.ToIntFunction<CodeImages> call, int due) {
        if (right) {
            JUDGE.check().due(name, call.applyAsInt(JUDGE.right(name, plan)), due);
        } else {
            JUDGE.wrong(name, plan, told);
        }
    }
}
