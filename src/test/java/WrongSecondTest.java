import java.util.ArrayList;
import java.util.Arrays;
import java.util.List;
import java.util.function.Consumer;

/** "Terms", WRONG: what is wrong second, alone, two together, and behind what is wrong first. */
public final class WrongSecondTest {
    private static final Judge JUDGE = new Judge("wrong second");

    /** A change that makes one byte wrong; two changes of the same part cannot be made together. */
    private record Change(String name, String part, String told, Consumer<Plan> make) {
    }

    public static void main(String[] args) {
        JUDGE.right("the plan without a change", plan());
        slotsMethodThatIsNone();
        anotherOwner();
        otherParameters();
        otherParametersInNumber();
        butTheFirst();
        givesAnotherType();
        onlyWhereTheUpperClassHasTheSlot();
        theMethodThereFromFarAbove();
        operandThatIsNoMethod();
        placeWhereNoInstructionBegins();
        ofThatMethodsCode();
        placeInTheNextMethodsCode();
        handlersFrom();
        handlersTo();
        handlersPlace();
        fromNotBelowTo();
        twoTogether();
        behindWhatIsWrongFirst();
        JUDGE.end();
    }

    /** The code of plan's methods 0 and 8: instructions begin at 0, 5, 8, 12, 14, 17; it ends at 18. */
    private static int[][] code() {
        return new int[][] {{0, 9, 9, 9, 9}, {25, 0, 5}, {19, 2, 0, 17}, {35, 8}, {21, 0, 0}, {37}};
    }

    private static boolean begins(int place) {
        return Arrays.stream(new int[] {0, 5, 8, 12, 14, 17}).anyMatch(one -> one == place);
    }

    /**
     * Four classes, 2 below 1 below 0, and 3 beside them: 0 has the slots 2 and 5, 1 tells 2 again and 9, 2 tells
     * all three again, 3 has the slot 2 with other parameters.
     */
    private static Plan plan() {
        Plan plan = new Plan(4, 1);
        plan.kind(0).slots = new int[][] {{2, plan.addOwned(0, 64, 0, 1)}, {5, plan.addOwned(0, 255)}};
        plan.kind(1).upper = 0;
        plan.kind(1).slots = new int[][] {{2, plan.addOwned(1, 64, 0, 1)}, {9, plan.addOwned(1, 1, 2)}};
        plan.kind(2).upper = 1;
        plan.kind(2).slots = new int[][] {
            {2, plan.addOwned(2, 64, 0, 1)}, {5, plan.addOwned(2, 255)}, {9, plan.addOwned(2, 1, 2)},
        };
        plan.addOwned(255, 0, 64);
        plan.kind(3).slots = new int[][] {{2, plan.addOwned(3, 255)}};
        for (int m : new int[] {0, 8}) {
            plan.routine(m).code = code();
            plan.routine(m).handlers = new int[][] {{0, 18, 3, 17}, {5, 8, 0, 0}};
        }
        return plan;
    }

    /** "a slot's method that is none" */
    private static void slotsMethodThatIsNone() {
        for (int m = plan().routines.size(); m < 256; m++) {
            for (int c = 0; c < 4; c++) {
                for (int k = 0; k < plan().kind(c).slots.length; k++) {
                    Plan plan = plan();
                    plan.kind(c).slots[k][1] = m;
                    JUDGE.wrong("slot's method " + m, plan, "slot's method " + c + " " + k);
                }
            }
        }
        Plan method0 = new Plan(1, 0);
        method0.kind(0).slots = new int[][] {{0, method0.addOwned(0, 255)}};
        method0.first = method0.addOwned(255, 255);
        JUDGE.right("method 0 in a slot", method0);
        for (int methods : new int[] {2, 3, 63, 64}) {
            Plan plan = new Plan(1, methods - 1);
            int last = plan.addOwned(0, 255);
            plan.kind(0).slots = new int[][] {{0, last}};
            JUDGE.right("the last of " + methods + " methods in a slot", plan);
            plan.kind(0).slots[0][1] = last + 1;
            JUDGE.wrong("one behind the last of " + methods + " methods in a slot", plan, "slot's method 0 0");
        }
    }

    /** "has another owner": the class above, below or beside, or none. */
    private static void anotherOwner() {
        Plan base = plan();
        for (int c = 0; c < 4; c++) {
            for (int owner : new int[] {0, 1, 2, 3, 255}) {
                Plan plan = plan();
                int m = plan.addOwned(owner, 255);
                int own = plan.addOwned(c, 255);
                plan.kind(c).slots = Arrays.copyOf(base.kind(c).slots, base.kind(c).slots.length + 1);
                int last = plan.kind(c).slots.length - 1;
                plan.kind(c).slots[last] = new int[] {12 + c, own};
                JUDGE.right("own method in a new slot of class " + c, plan);
                plan.kind(c).slots[last] = new int[] {12 + c, m};
                JUDGE.judge("method of " + owner + " in a slot of class " + c, plan, owner == c,
                    "slot's method " + c + " " + last);
            }
        }
        Plan again = plan();
        again.kind(1).slots[0][1] = again.kind(0).slots[0][1];
        JUDGE.wrong("the upper class's method told again", again, "slot's method 1 0");
    }

    /** Two classes with a slot each, the lower one's method being another; the lower one's byte is "slot's method 1 0". */
    private static Plan twoMethods(int givesAbove, int[] toldAbove, int gives, int[] told) {
        Plan plan = new Plan(3, 1);
        plan.kind(0).slots = new int[][] {{7, plan.addOwned(0, givesAbove, toldAbove)}};
        plan.kind(1).upper = 0;
        plan.kind(1).slots = new int[][] {{7, plan.addOwned(1, gives, told)}};
        return plan;
    }

    /** "where the upper class has that slot, other parameters": each of seven, of each other type. */
    private static void otherParameters() {
        int[] types = {0, 1, 2, 3, 64, 65, 66, 67};
        for (int count = 1; count <= 7; count++) {
            for (int k = 0; k < count; k++) {
                for (int type : types) {
                    for (int other : types) {
                        int[] above = new int[count];
                        above[k] = type;
                        int[] told = new int[count];
                        told[k] = other;
                        JUDGE.judge("parameter " + k + " of " + count + ": " + other + " for " + type,
                            twoMethods(255, above, 255, told), type == other, "slot's method 1 0");
                    }
                }
            }
        }
        JUDGE.wrong("parameters changed about",
            twoMethods(255, new int[] {0, 64}, 255, new int[] {64, 0}), "slot's method 1 0");
    }

    /** Parameters other in number, those that both have being the same. */
    private static void otherParametersInNumber() {
        for (int above = 0; above <= 7; above++) {
            for (int told = 0; told <= 7; told++) {
                JUDGE.judge(told + " parameters for " + above,
                    twoMethods(255, new int[above], 255, new int[told]), told == above, "slot's method 1 0");
            }
        }
    }

    /** "(but the first)": it is of the owner's class, whatever that is. */
    private static void butTheFirst() {
        CodeImages x = JUDGE.right("methods of two owners", twoMethods(0, new int[] {64}, 0, new int[] {64}));
        JUDGE.check().due("first parameter above", x.method(1, 2, 0), 1);
        JUDGE.check().due("first parameter below", x.method(2, 2, 0), 2);
    }

    /** "or gives another type than the method there", nothing being another than any. */
    private static void givesAnotherType() {
        int[] types = {0, 1, 2, 3, 64, 65, 66, 67, 255};
        for (int above : types) {
            for (int gives : types) {
                JUDGE.judge("gives " + gives + " for " + above,
                    twoMethods(above, new int[] {0}, gives, new int[] {0}), gives == above, "slot's method 1 0");
            }
        }
    }

    /** Another slot, or the same slot of a class that is not above, asks nothing. */
    private static void onlyWhereTheUpperClassHasTheSlot() {
        for (int slot = 0; slot < 16; slot++) {
            Plan plan = twoMethods(0, new int[] {0, 0}, 255, new int[] {64});
            plan.kind(1).slots[0][0] = slot;
            JUDGE.judge("slot " + slot + " below a class with slot 7", plan, slot != 7, "slot's method 1 0");
        }
        Plan beside = twoMethods(0, new int[] {0, 0}, 255, new int[] {64});
        beside.kind(1).upper = 255;
        JUDGE.right("slot 7 beside a class with slot 7", beside);
        Plan below = new Plan(2, 1);
        below.kind(1).upper = 0;
        below.kind(1).slots = new int[][] {{7, below.addOwned(1, 0)}};
        JUDGE.right("slot 7 below a class without a slot", below);
    }

    /** The upper class has the slot also when it has it from above; and two classes below one each look up. */
    private static void theMethodThereFromFarAbove() {
        for (int between = 0; between < 30; between += 29) {
            for (int gives : new int[] {0, 255}) {
                Plan plan = new Plan(between + 2, 1);
                for (int c = 1; c < between + 2; c++) {
                    plan.kind(c).upper = c - 1;
                }
                plan.kind(0).slots = new int[][] {{15, plan.addOwned(0, 0, 64)}};
                plan.kind(between + 1).slots = new int[][] {{15, plan.addOwned(between + 1, gives, 64)}};
                JUDGE.judge("gives " + gives + ", " + between + " classes between", plan, gives == 0,
                    "slot's method " + (between + 1) + " 0");
            }
        }
        Plan plan = plan();
        plan.routine(plan.kind(2).slots[1][1]).gives = 0;
        JUDGE.wrong("slot 5 of class 2, which class 1 has from class 0", plan, "slot's method 2 1");
    }

    /** "an operand m that is no method" */
    private static void operandThatIsNoMethod() {
        for (int m = 0; m < 256; m++) {
            for (int routine : new int[] {0, 8}) {
                Plan plan = plan();
                plan.routine(routine).code[3][1] = m;
                JUDGE.judge("CALL " + m, plan, m < plan.routines.size(), "code " + routine + " 3 1");
            }
        }
    }

    /** "places of code at which no instruction of it begins": within one, at the end, behind it. */
    private static void placeWhereNoInstructionBegins() {
        int[] far = {255, 256, 261, 1000, 4096, 32768, 65535};
        for (int routine : new int[] {0, 8}) {
            for (int i = 0; i < 20 + far.length; i++) {
                int place = i < 20 ? i : far[i - 20];
                for (int[] jump : new int[][] {{1, 1}, {2, 2}, {4, 1}}) {
                    Plan plan = plan();
                    int[] instruction = plan.routine(routine).code[jump[0]];
                    instruction[jump[1]] = place >> 8;
                    instruction[jump[1] + 1] = place & 255;
                    JUDGE.judge(Arrays.toString(instruction) + " in method " + routine, plan, begins(place),
                        "code " + routine + " " + jump[0] + " " + jump[1]);
                }
            }
        }
    }

    /** "of it": where an instruction of another method begins is no place of this one. */
    private static void ofThatMethodsCode() {
        for (int place = 0; place < 12; place++) {
            Plan plan = new Plan(1, 2);
            plan.routine(0).code = new int[][] {{0, 0, 0, 0, 0}, {25, 0, place}};
            plan.routine(1).code = Plan.returns(12);
            JUDGE.judge("GOTO " + place + " before a method of RETURNs", plan, place == 0 || place == 5, "code 0 1 1");
            plan.routine(0).code = Plan.returns(12);
            plan.routine(1).code = new int[][] {{0, 0, 0, 0, 0}, {25, 0, place}};
            JUDGE.judge("GOTO " + place + " behind a method of RETURNs", plan, place == 0 || place == 5, "code 1 1 1");
        }
    }

    /** As far behind as the next method's code lies in the image, no instruction of this one begins. */
    private static void placeInTheNextMethodsCode() {
        Plan plan = new Plan(1, 2);
        plan.routine(0).code = new int[][] {{25, 0, 0}};
        plan.routine(1).code = Plan.returns(20);
        ImageBytes image = plan.write();
        for (int i = 0; i < 20; i++) {
            int place = image.at("code 1 " + i + " 0") - image.at("code 0 0 0");
            plan.routine(0).code[0][2] = place;
            JUDGE.wrong("GOTO " + place, plan, "code 0 0 1");
            plan.routine(0).code[0][2] = 0;
            plan.routine(0).handlers = new int[][] {{0, 3, 0, 0}};
            plan.routine(0).handlers[0][3] = place + 7;
            JUDGE.wrong("handler at " + place, plan, "place 0 0");
            plan.routine(0).handlers = new int[0][];
        }
    }

    /** A handler of plan's method 0 or 8, the second or the first, with some of its places changed. */
    private static Plan withHandler(int routine, int k, int from, int to, int place) {
        Plan plan = plan();
        plan.routine(routine).handlers[k] = new int[] {from, to, 1, place};
        return plan;
    }

    /** "places of code at which no instruction of it begins": a handler's from, the end being none, too. */
    private static void handlersFrom() {
        for (int routine : new int[] {0, 8}) {
            for (int k = 0; k < 2; k++) {
                for (int from = 0; from < 18; from++) {
                    JUDGE.judge("from " + from, withHandler(routine, k, from, 18, 0), begins(from),
                        "from " + routine + " " + k);
                }
                for (int from : new int[] {18, 19, 256, 261, 65535}) {
                    JUDGE.wrong("from " + from, withHandler(routine, k, from, 18, 0), "from " + routine + " " + k);
                }
            }
        }
    }

    /** "(of a handler's to also the end" */
    private static void handlersTo() {
        for (int routine : new int[] {0, 8}) {
            for (int k = 0; k < 2; k++) {
                for (int to : new int[] {1, 2, 3, 4, 5, 6, 8, 9, 12, 13, 14, 16, 17, 18, 19, 20, 256, 261, 274, 65535}) {
                    JUDGE.judge("to " + to, withHandler(routine, k, 0, to, 0), begins(to) || to == 18,
                        "to " + routine + " " + k);
                }
            }
        }
        Plan longest = new Plan(1, 1);
        longest.routine(0).code = Plan.returns(1000);
        longest.routine(0).handlers = new int[][] {{999, 1000, 0, 999}};
        JUDGE.right("to 1000 of 1000", longest);
        longest.routine(0).handlers[0][1] = 1001;
        JUDGE.wrong("to 1001 of 1000", longest, "to 0 0");
    }

    /** "places of code at which no instruction of it begins": a handler's place, of which the end is none, too. */
    private static void handlersPlace() {
        for (int routine : new int[] {0, 8}) {
            for (int k = 0; k < 2; k++) {
                for (int place = 0; place < 20; place++) {
                    JUDGE.judge("place " + place, withHandler(routine, k, 0, 18, place), begins(place),
                        "place " + routine + " " + k);
                }
                for (int place : new int[] {256, 261, 65535}) {
                    JUDGE.wrong("place " + place, withHandler(routine, k, 0, 18, place),
                        "place " + routine + " " + k);
                }
            }
        }
    }

    /** "its from, told at from, that is not below its to" */
    private static void fromNotBelowTo() {
        int[] places = {0, 5, 8, 12, 14, 17};
        for (int from : places) {
            for (int to : places) {
                for (int k = 0; k < 2; k++) {
                    JUDGE.judge("from " + from + " to " + to, withHandler(0, k, from, to, 0), from < to, "from 0 " + k);
                }
            }
            JUDGE.right("from " + from + " to the end", withHandler(8, 1, from, 18, 0));
        }
        JUDGE.wrong("from the end to the end", withHandler(0, 0, 18, 18, 0), "from 0 0");
        JUDGE.wrong("from 17 to 17, at a place that is none", withHandler(0, 0, 17, 17, 1), "from 0 0");
    }

    private static List<Change> secondChanges() {
        List<Change> changes = new ArrayList<>();
        for (int c = 0; c < 4; c++) {
            int kind = c;
            String told = "slot's method " + c + " 0";
            for (int none : new int[] {10, 63, 64, 200, 255}) {
                changes.add(new Change(told + " " + none, told, told, p -> p.kind(kind).slots[0][1] = none));
            }
            changes.add(new Change(told + " without an owner", told, told, p -> p.kind(kind).slots[0][1] = 8));
        }
        changes.add(new Change("parameter of slot 2 of class 1", "m 3", "slot's method 1 0",
            p -> p.routine(3).told[1] = 2));
        changes.add(new Change("type given in slot 5 of class 2", "m 6", "slot's method 2 1",
            p -> p.routine(6).gives = 0));
        changes.add(new Change("parameter of slot 9 of class 2", "m 7", "slot's method 2 2",
            p -> p.routine(7).told[0] = 3));
        for (int m : new int[] {0, 8}) {
            addCodeChanges(changes, m);
            addHandlerChanges(changes, m);
        }
        return changes;
    }

    private static void addCodeChanges(List<Change> changes, int m) {
        String code = "code " + m + " ";
        changes.add(new Change(code + "GOTO", code + "1", code + "1 1", p -> p.routine(m).code[1][2] = 6));
        changes.add(new Change(code + "IF", code + "2", code + "2 2", p -> p.routine(m).code[2][3] = 18));
        changes.add(new Change(code + "CALL", code + "3", code + "3 1", p -> p.routine(m).code[3][1] = 10));
        changes.add(new Change(code + "CALL 255", code + "3", code + "3 1", p -> p.routine(m).code[3][1] = 255));
        changes.add(new Change(code + "IFNULL", code + "4", code + "4 1", p -> p.routine(m).code[4][1] = 1));
    }

    private static void addHandlerChanges(List<Change> changes, int m) {
        for (int k = 0; k < 2; k++) {
            int which = k;
            String handler = " " + m + " " + k;
            changes.add(new Change("from inside" + handler, "from" + handler, "from" + handler,
                p -> p.routine(m).handlers[which][0] += 1));
            changes.add(new Change("to behind the end" + handler, "to" + handler, "to" + handler,
                p -> p.routine(m).handlers[which][1] = 19));
            changes.add(new Change("to not above from" + handler, "to" + handler, "from" + handler,
                p -> p.routine(m).handlers[which][1] = 0));
            changes.add(new Change("place at the end" + handler, "place" + handler, "place" + handler,
                p -> p.routine(m).handlers[which][3] = 18));
        }
    }

    /** "the first byte, by its place in the image": of two that are wrong, the one before the other. */
    private static void twoTogether() {
        List<Change> changes = secondChanges();
        for (Change one : changes) {
            for (Change other : changes) {
                if (one == other || !one.part().equals(other.part())) {
                    Plan plan = plan();
                    one.make().accept(plan);
                    if (one != other) {
                        other.make().accept(plan);
                    }
                    ImageBytes image = plan.write();
                    JUDGE.wrong(one.name() + "; " + other.name(), image.bytes(),
                        Math.min(image.at(one.told()), image.at(other.told())));
                }
            }
        }
    }

    /** "When there is none, second": any byte that is wrong first is told before, wherever it stands. */
    private static void behindWhatIsWrongFirst() {
        List<Change> first = List.of(
            new Change("no such number of classes", "", "classes", p -> p.kinds.addAll(new Plan(32, 0).kinds)),
            new Change("a slot that is none", "", "slot 3 0", p -> p.kind(3).slots[0][0] = 16),
            new Change("a thrown class that is none", "", "thrown 4", p -> p.thrown[4] = 4),
            new Change("a stack too high", "", "stack 9", p -> p.routine(9).stack = 12),
            new Change("no instruction", "", "code 9 0 0", p -> p.routine(9).code[0] = new int[] {42}),
            new Change("a local that is none", "", "code 9 0 1", p -> p.routine(9).code[0] = new int[] {2, 1}),
            new Change("a handler's class that is none", "", "class 8 1", p -> p.routine(8).handlers[1][2] = 4),
            new Change("a first method with an owner", "", "first", p -> p.first = 9),
            new Change("one more byte", "", "behind", p -> p.behind = new int[] {0}));
        for (Change change : secondChanges()) {
            for (Change before : first) {
                Plan plan = plan();
                change.make().accept(plan);
                before.make().accept(plan);
                JUDGE.wrong(change.name() + "; " + before.name(), plan, before.told());
            }
            Plan plan = plan();
            change.make().accept(plan);
            int[] bytes = plan.write().bytes();
            for (int n = 0; n < bytes.length; n++) {
                JUDGE.wrong(change.name() + "; cut at " + n, Arrays.copyOf(bytes, n), n);
            }
        }
    }
}
