import java.util.Arrays;

/** "Terms", WRONG: what is wrong first, by what was read up to it. */
public final class WrongFirstTest {
    private static final Judge JUDGE = new Judge("wrong first");
    /** The instructions that have operands, each with operands that can stand in richPlan's method 0. */
    private static final int[][] WITH_OPERANDS = {
        {0, 1, 2, 3, 4}, {2, 0}, {3, 1}, {19, 5, 0, 0}, {20, 0, 0, 0}, {21, 0, 0}, {22, 0, 0}, {23, 0, 0}, {24, 0, 0},
        {25, 0, 0}, {26, 1}, {27, 0, 1}, {28, 0, 0}, {29, 0}, {30, 1}, {31, 2}, {35, 1}, {36, 0, 3},
    };

    public static void main(String[] args) {
        theEnd();
        theEndWithinTheTape();
        oneMoreByte();
        bytesBehindN();
        instructionWithoutMoreBytes();
        beforeItsOperands();
        endOfTapeWithinInstruction();
        operandsAsTheyAreRead();
        placesAndMethodsLater();
        firstOfTwo();
        JUDGE.end();
    }

    /** Every part of an image and every instruction with operands. */
    static Plan richPlan() {
        Plan plan = new Plan(2, 1);
        plan.kind(0).fields = new int[] {0, 66};
        plan.kind(0).slots = new int[][] {{3, plan.addOwned(0, 255, 0)}};
        plan.kind(1).upper = 0;
        plan.kind(1).fields = new int[] {64};
        plan.kind(1).slots = new int[][] {{3, plan.addOwned(1, 255, 0)}, {9, plan.addOwned(1, 2)}};
        plan.thrown = new int[] {0, 1, 0, 1, 0};
        plan.routine(0).locals = 2;
        plan.routine(0).stack = 3;
        plan.routine(0).code = WITH_OPERANDS.clone();
        plan.routine(0).handlers = new int[][] {{0, 5, 1, 7}, {5, Plan.lengthOf(WITH_OPERANDS), 0, 0}};
        plan.routine(3).handlers = new int[][] {{0, 1, 0, 0}};
        return plan;
    }

    /** "the end, too": cut anywhere, the end is the byte that is wrong. */
    private static void theEnd() {
        for (Plan plan : new Plan[] {new Plan(1, 1), richPlan(), new Plan(32, 64)}) {
            int[] bytes = plan.write().bytes();
            JUDGE.right("whole", plan);
            for (int n = 0; n < bytes.length; n++) {
                JUDGE.wrong("cut at " + n, Arrays.copyOf(bytes, n), n);
            }
        }
    }

    /** The image ends at n, though the tape goes on with the bytes that it would need. */
    private static void theEndWithinTheTape() {
        int[] bytes = richPlan().write().bytes();
        for (int n = 0; n < bytes.length; n++) {
            CodeImages x = new CodeImages();
            ImageBytes.feed(x, bytes);
            JUDGE.check().due("end(" + n + ") of the whole image's tape", x.end(n), -3 - n);
            JUDGE.check().due("count(0)", x.count(0), 0);
        }
    }

    /** "one more byte behind the image" */
    private static void oneMoreByte() {
        for (int more : new int[] {1, 2, 3, 20, 21, 100}) {
            for (int value : new int[] {0, 1, 37, 255}) {
                Plan plan = richPlan();
                plan.behind = new int[more];
                Arrays.fill(plan.behind, value);
                JUDGE.wrong(more + " bytes " + value + " behind the image", plan, "behind");
            }
        }
    }

    /** Bytes of the tape that are behind the first n are none of the image. */
    private static void bytesBehindN() {
        for (int more : new int[] {1, 20, 100}) {
            Plan plan = richPlan();
            int n = plan.write().size();
            plan.behind = new int[more];
            Arrays.fill(plan.behind, 255);
            CodeImages x = new CodeImages();
            ImageBytes.feed(x, plan.write().bytes());
            JUDGE.check().due("end before " + more + " bytes more", x.end(n), plan.instructions());
            JUDGE.check().due("count(3)", x.count(3), 0);
        }
    }

    /** "of code an instruction that has no more bytes in it, at its first byte" */
    private static void instructionWithoutMoreBytes() {
        for (int[] instruction : WITH_OPERANDS) {
            for (int before : new int[] {0, 1, 255, 300}) {
                for (int has = 1; has <= instruction.length; has++) {
                    Plan plan = richPlan();
                    plan.routine(0).handlers = new int[0][];
                    plan.routine(0).code = Arrays.copyOf(Plan.returns(before), before + 1);
                    plan.routine(0).code[before] = Arrays.copyOf(instruction, has);
                    JUDGE.judge(instruction[0] + " with " + has + " bytes behind " + before, plan,
                        has == instruction.length, "code 0 " + before + " 0");
                }
            }
        }
    }

    /** "before any of its operands": whatever they are, and whatever stands behind the code. */
    private static void beforeItsOperands() {
        for (int[] instruction : WITH_OPERANDS) {
            for (int has = 1; has < instruction.length; has++) {
                int[] cut = new int[has];
                Arrays.fill(cut, 255);
                cut[0] = instruction[0];
                Plan plan = richPlan();
                plan.routine(0).handlers = new int[0][];
                plan.routine(0).code = new int[][] {{4}, cut};
                JUDGE.wrong(instruction[0] + " with " + has + " bytes, all 255", plan, "code 0 1 0");
            }
        }
    }

    /** Within the code's bytes, but not on the tape: the end is wrong, unless the code ends there as well. */
    private static void endOfTapeWithinInstruction() {
        for (int[] instruction : WITH_OPERANDS) {
            for (int has = 1; has < instruction.length; has++) {
                Plan plan = richPlan();
                plan.routine(0).code = new int[][] {{4}, instruction};
                ImageBytes image = plan.write();
                int start = image.at("code 0 1 0");
                JUDGE.wrong(instruction[0] + " with " + has + " bytes on the tape",
                    Arrays.copyOf(image.bytes(), start + has), start + has);
                plan.routine(0).length = 1 + has;
                JUDGE.wrong(instruction[0] + " with " + has + " bytes in the code and on the tape",
                    Arrays.copyOf(plan.write().bytes(), start + has), start);
            }
        }
    }

    /** "an operand that is no place and no method, so also a class, a field, a slot, is looked at as it is read" */
    private static void operandsAsTheyAreRead() {
        int[][] wrong = {
            {2, 2}, {3, 2}, {19, 6, 0, 0}, {20, 6, 0, 0}, {26, 2}, {27, 2, 0}, {27, 1, 3}, {28, 2, 0}, {28, 1, 3},
            {29, 2}, {30, 2}, {31, 3}, {36, 2, 3}, {36, 0, 9},
        };
        for (int[] instruction : wrong) {
            boolean second = instruction[1] < 2 && instruction.length == 3;
            String told = "code 0 1 " + (second ? 2 : 1);
            String name = Arrays.toString(instruction);
            Plan plan = richPlan();
            plan.routine(0).handlers = new int[0][];
            plan.routine(0).code = new int[][] {{4}, instruction, {4}};
            JUDGE.wrong(name, plan, told);
            plan.kind(0).slots[0][1] = 99;
            JUDGE.wrong(name + " behind a slot's method that is none", plan, told);
            plan.routine(0).code[0] = new int[] {25, 255, 255};
            JUDGE.wrong(name + " behind a place that is none", plan, told);
            plan.routine(0).code[0] = new int[] {35, 99};
            JUDGE.wrong(name + " behind a method that is none", plan, told);
            plan.routine(0).code[2] = new int[] {42};
            JUDGE.wrong(name + " before what is no instruction", plan, told);
            plan.first = 1;
            JUDGE.wrong(name + " before a first method that cannot be one", plan, told);
        }
    }

    /** Places and methods are not looked at as they are read, whatever they are. */
    private static void placesAndMethodsLater() {
        int[][] later = {
            {19, 0, 255, 255}, {20, 0, 255, 255}, {21, 255, 255}, {22, 255, 255}, {23, 255, 255}, {24, 255, 255},
            {25, 255, 255}, {35, 4}, {35, 64}, {35, 255},
        };
        for (int[] instruction : later) {
            String name = Arrays.toString(instruction);
            Plan plan = richPlan();
            plan.routine(0).handlers = new int[0][];
            plan.routine(0).code = new int[][] {{4}, instruction, {4}};
            JUDGE.wrong(name, plan, "code 0 1 " + (instruction.length - (instruction[0] == 35 ? 1 : 2)));
            plan.behind = new int[] {0};
            JUDGE.wrong(name + " before one more byte behind the image", plan, "behind");
            plan.first = 4;
            JUDGE.wrong(name + " before a first method that is none", plan, "first");
            plan.routine(0).code[2] = new int[] {2, 2};
            JUDGE.wrong(name + " before a local that is none", plan, "code 0 2 1");
            plan.routine(0).code[2] = new int[] {42};
            JUDGE.wrong(name + " before what is no instruction", plan, "code 0 2 0");
        }
    }

    /** Of two bytes that are wrong first, the one before the other. */
    private static void firstOfTwo() {
        String[] names = {
            "classes", "upper 0", "fields 0", "field 0 0", "slots 0", "slot 0 0", "upper 1", "fields 1", "field 1 0",
            "slots 1", "slot 1 0", "slot 1 1", "thrown 0", "thrown 4", "methods", "owner 0", "told 0", "gives 0",
            "locals 0", "stack 0", "length 0", "code 0 0 0", "code 0 1 1", "code 0 3 1", "code 0 11 2", "code 0 17 2",
            "handlers 0", "class 0 0", "class 0 1", "owner 1", "told 1", "parameter 1 0", "gives 1", "locals 1",
            "code 1 0 0", "handlers 3", "class 3 0", "first",
        };
        ImageBytes image = richPlan().write();
        for (int i = 0; i < names.length; i++) {
            for (int j = i; j < names.length; j++) {
                int[] bytes = image.bytes();
                bytes[image.at(names[i])] = 254;
                bytes[image.at(names[j])] = 254;
                JUDGE.wrong(names[i] + " and " + names[j] + " = 254", bytes, image.at(names[i]));
            }
        }
    }
}
