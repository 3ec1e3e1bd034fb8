import java.util.ArrayList;
import java.util.Arrays;
import java.util.List;
import java.util.function.Supplier;

/**
 * Every promise in every state that an object can be in: new, with an image, after an
 * image that was wrong, after an end that answered NONE, after a second image in place
 * of the first. The answers are read from the document, by hand.
 */
public final class StatesTest {
    private static final Check CHECK = new Check("every state");

    private static final int[] FIRST = {
        2,
        255, 1, 0, 2, 0, 1, 15, 1,
        0, 1, 64, 1, 0, 2,
        0, 1, 0, 1, 1,
        3,
        255, 0, 255, 1, 2, 0, 9, 26, 1, 25, 0, 5, 36, 1, 15, 37, 1, 0, 2, 0, 9, 1, 0, 0,
        0, 1, 66, 1, 3, 4, 0, 6, 0, 128, 0, 0, 1, 38, 0,
        1, 1, 66, 1, 2, 0, 0, 3, 2, 1, 38, 1, 0, 0, 0, 2, 0, 0, 2,
        0,
    };
    /** Places at which 200 in the first image is wrong first, then those at which it is wrong second. */
    private static final int[] WRONG = {
        0, 1, 2, 3, 4, 5, 15, 20, 21, 22, 23, 24, 25, 26, 28, 29, 33, 34, 35, 37, 42, 58, 76, 79,
        6, 8, 14, 31, 38, 40, 43, 77,
    };
    private static final String[] OF_FIRST = {
        "count(0) = 2", "count(1) = 3", "count(2) = 8", "count(3) = 0", "count(4) = -1", "count(-1) = -1",
        "classOf(0, 0, 0) = -1", "classOf(1, 0, 0) = 0", "classOf(2, 0, 0) = -1", "classOf(-1, 0, 0) = -1",
        "classOf(0, 1, 0) = 1", "classOf(1, 1, 0) = 2", "classOf(2, 1, 0) = -1",
        "classOf(0, 2, 0) = 0", "classOf(0, 2, 1) = -1", "classOf(1, 2, 0) = 0", "classOf(1, 2, 1) = 64",
        "classOf(1, 2, 2) = -1", "classOf(1, 2, -1) = -1",
        "classOf(0, 3, 0) = 1", "classOf(0, 3, 1) = -1", "classOf(0, 3, 15) = 1", "classOf(0, 3, 16) = -1",
        "classOf(1, 3, 0) = 2", "classOf(1, 3, 15) = 1", "classOf(1, 3, -1) = -1", "classOf(1, 4, 0) = -1",
        "isA(0, 0) = true", "isA(1, 1) = true", "isA(1, 0) = true", "isA(0, 1) = false",
        "isA(2, 2) = false", "isA(-1, -1) = false", "isA(0, -1) = false",
        "method(0, 0, 0) = -1", "method(1, 0, 0) = 0", "method(2, 0, 0) = 1", "method(3, 0, 0) = -1",
        "method(0, 1, 0) = 0", "method(1, 1, 0) = 2", "method(2, 1, 0) = 2",
        "method(0, 2, 0) = -1", "method(1, 2, 0) = 1", "method(1, 2, 1) = 66", "method(1, 2, 2) = -1",
        "method(2, 2, 0) = 2", "method(2, 2, 1) = 66",
        "method(0, 3, 0) = -1", "method(1, 3, 0) = 1", "method(2, 4, 0) = 2", "method(1, 5, 0) = 4",
        "method(0, 6, 0) = 9", "method(1, 6, 0) = 6", "method(0, 7, 0) = 4", "method(2, 7, 0) = 2",
        "method(0, 8, 0) = 0", "method(0, 8, 1) = 2", "method(0, 8, 2) = 5", "method(0, 8, 3) = 8",
        "method(0, 8, 4) = -1", "method(1, 8, 1) = 5", "method(0, 8, -1) = -1",
        "method(0, 9, 0) = 1", "method(1, 9, 0) = 0", "method(2, 9, 0) = 1", "method(0, 10, 0) = -1",
        "handler(0, 0, 0) = 2", "handler(0, 0, 1) = 9", "handler(0, 0, 2) = 1", "handler(0, 0, 3) = 0",
        "handler(0, 0, 4) = -1", "handler(0, 1, 0) = -1", "handler(1, 0, 0) = -1", "handler(2, 0, 3) = 2",
        "instruction(0, 0, 0) = 26", "instruction(0, 1, 0) = -1", "instruction(0, 2, 1) = 5",
        "instruction(0, 5, 1) = 1", "instruction(0, 5, 2) = 15", "instruction(0, 5, 3) = 8",
        "instruction(0, 8, 0) = 37", "instruction(0, 8, 1) = 0", "instruction(0, 9, 0) = -1",
        "instruction(1, 0, 1) = -2147483647", "instruction(1, 0, 2) = 0", "instruction(1, 0, 3) = 5",
        "instruction(2, 2, 0) = 38", "instruction(0, 0, 4) = -1", "instruction(3, 0, 0) = -1",
        "thrown(0) = 0", "thrown(1) = 1", "thrown(2) = 0", "thrown(4) = 1", "thrown(5) = -1", "thrown(-1) = -1",
    };

    private static final int[] SECOND = {
        1,
        255, 2, 65, 1, 0,
        0, 0, 0, 0, 0,
        2,
        0, 0, 64, 1, 11, 0, 1, 38, 0,
        255, 0, 0, 0, 0, 0, 5, 19, 3, 0, 0, 38, 2, 0, 0, 0, 4, 0, 0, 4, 0, 4, 0, 5, 0, 0, 0,
        1,
    };
    private static final String[] OF_SECOND = {
        "count(0) = 1", "count(1) = 2", "count(2) = 3", "count(3) = 1", "count(4) = -1", "count(-1) = -1",
        "classOf(0, 0, 0) = -1", "classOf(1, 0, 0) = -1", "classOf(0, 1, 0) = 2", "classOf(1, 1, 0) = -1",
        "classOf(0, 2, 0) = 65", "classOf(0, 2, 1) = 1", "classOf(0, 2, 2) = -1", "classOf(1, 2, 0) = -1",
        "classOf(0, 3, 0) = -1", "classOf(0, 3, 15) = -1", "classOf(1, 3, 0) = -1",
        "isA(0, 0) = true", "isA(1, 1) = false", "isA(1, 0) = false", "isA(0, 1) = false",
        "method(0, 0, 0) = 0", "method(1, 0, 0) = -1", "method(2, 0, 0) = -1",
        "method(0, 1, 0) = 1", "method(1, 1, 0) = 0", "method(2, 1, 0) = -1",
        "method(0, 2, 0) = 1", "method(0, 2, 1) = -1", "method(1, 2, 0) = -1",
        "method(0, 3, 0) = 64", "method(1, 3, 0) = 0", "method(0, 4, 0) = 1", "method(0, 5, 0) = 11",
        "method(0, 6, 0) = 1", "method(1, 6, 0) = 5", "method(0, 7, 0) = 1", "method(1, 7, 0) = 2",
        "method(0, 8, 0) = 0", "method(0, 8, 1) = -1", "method(1, 8, 1) = 4", "method(1, 8, 2) = -1",
        "method(0, 9, 0) = 0", "method(1, 9, 0) = 2", "method(2, 9, 0) = -1",
        "handler(0, 0, 0) = -1", "handler(1, 0, 0) = 0", "handler(1, 0, 1) = 4", "handler(1, 0, 2) = 0",
        "handler(1, 0, 3) = 4", "handler(1, 1, 0) = 4", "handler(1, 1, 1) = 5", "handler(1, 1, 3) = 0",
        "handler(1, 2, 0) = -1", "handler(2, 0, 0) = -1",
        "instruction(0, 0, 0) = 38", "instruction(0, 2, 0) = -1", "instruction(0, 5, 0) = -1",
        "instruction(1, 0, 0) = 19", "instruction(1, 0, 1) = 3", "instruction(1, 0, 2) = 0",
        "instruction(1, 0, 3) = 4", "instruction(1, 4, 0) = 38", "instruction(1, 4, 3) = 5",
        "instruction(1, 5, 0) = -1", "instruction(2, 0, 0) = -1",
        "thrown(0) = 0", "thrown(1) = 0", "thrown(4) = 0", "thrown(5) = -1",
    };

    private static final String[] OF_NONE = ofNone();

    /** A way to come to a state, and what is due there. */
    private record State(String name, Supplier<CodeImages> object, String[] due) {
    }

    public static void main(String[] args) {
        for (State state : states()) {
            questions(state);
            feed(state);
            full(state);
            endRight(state);
            endWrong(state);
            endNone(state);
        }
        CHECK.end();
    }

    /** "0 without an image (of 3 NONE)", and nothing of all else that both images are asked. */
    private static String[] ofNone() {
        List<String> due = new ArrayList<>();
        for (String[] table : new String[][] {OF_FIRST, OF_SECOND}) {
            for (String line : table) {
                String call = line.substring(0, line.indexOf(" = "));
                boolean counted = call.equals("count(0)") || call.equals("count(1)") || call.equals("count(2)");
                due.add(call + " = " + (call.startsWith("isA") ? "false" : counted ? "0" : "-1"));
            }
        }
        return due.toArray(new String[0]);
    }

    private static List<State> states() {
        List<State> states = new ArrayList<>();
        states.add(new State("new", CodeImages::new, OF_NONE));
        states.add(new State("an image", () -> read(new CodeImages(), FIRST, 8), OF_FIRST));
        states.add(new State("another image", () -> read(new CodeImages(), SECOND, 3), OF_SECOND));
        states.addAll(after(states));
        for (State state : List.copyOf(states)) {
            for (int n : new int[] {-1, Integer.MIN_VALUE, 41, Integer.MAX_VALUE}) {
                states.add(new State(state.name + ", then NONE of " + n, () -> refused(state.object.get(), n), state.due));
            }
        }
        return states;
    }

    /** A right image or a wrong one in each of the states that there are. */
    private static List<State> after(List<State> states) {
        List<State> more = new ArrayList<>();
        for (State state : states) {
            Supplier<CodeImages> object = state.object;
            more.add(new State(state.name + ", then the first", () -> read(object.get(), FIRST, 8), OF_FIRST));
            more.add(new State(state.name + ", then the second", () -> read(object.get(), SECOND, 3), OF_SECOND));
            for (int place : WRONG) {
                more.add(new State(state.name + ", then wrong at " + place,
                    () -> read(object.get(), wrongAt(place), -3 - place), OF_NONE));
            }
            more.add(new State(state.name + ", then no bytes", () -> read(object.get(), new int[0], -3), OF_NONE));
            more.add(new State(state.name + ", then wrong and right",
                () -> read(read(object.get(), wrongAt(0), -3), FIRST, 8), OF_FIRST));
        }
        return more;
    }

    /** The first image with 200 at a place. */
    private static int[] wrongAt(int place) {
        int[] bytes = FIRST.clone();
        bytes[place] = 200;
        return bytes;
    }

    private static CodeImages read(CodeImages x, int[] bytes, int answer) {
        CHECK.due("end of an image", ImageBytes.load(x, bytes), answer);
        return x;
    }

    private static CodeImages refused(CodeImages x, int n) {
        CHECK.due("feed", x.feed(-1, -1, -1, -1, -1), 20);
        CHECK.due("feed", x.feed(-1, -1, -1, -1, -1), 40);
        CHECK.due("end(" + n + ")", x.end(n), -1);
        return x;
    }

    private static void ask(String name, CodeImages x, String[] table) {
        for (String line : table) {
            String[] parts = line.split(" = ");
            CHECK.due(name + ": " + parts[0], Calls.answer(x, parts[0]), parts[1]);
        }
    }

    /** Promises 4 to 10; what has been asked changes nothing. */
    private static void questions(State state) {
        CodeImages x = state.object.get();
        ask(state.name, x, state.due);
        ask(state.name + ", again", x, state.due);
    }

    /** Promise 2: the tape is empty in each of the states, and what comes onto it changes no answer. */
    private static void feed(State state) {
        CodeImages x = state.object.get();
        CHECK.due(state.name + ": feed", x.feed(1, 2, 3, 4, 5), 20);
        CHECK.due(state.name + ": feed", x.feed(-1, -2, -3, -4, -5), 40);
        ask(state.name + ", fed", x, state.due);
        CHECK.due(state.name + ": feed", x.feed(0, 0, 0, 0, 0), 60);
    }

    /** Promise 2: "FULL when there would be more than 8,000." */
    private static void full(State state) {
        CodeImages x = state.object.get();
        for (int i = 1; i <= 400; i++) {
            CHECK.due(state.name + ": feed", x.feed(-1, 0, -1, 0, -1), 20 * i);
        }
        CHECK.due(state.name + ": feed of a full tape", x.feed(0, 0, 0, 0, 0), -2);
        ask(state.name + ", full", x, Arrays.copyOf(state.due, 4));
        CHECK.due(state.name + ": end of a full tape", x.end(8000), -3);
        ask(state.name + ", full and wrong", x, new String[] {"count(0) = 0", "count(3) = -1"});
    }

    /** Promise 3: "The tape's first n bytes are an image, and the tape is empty" */
    private static void endRight(State state) {
        CodeImages x = read(state.object.get(), SECOND, 3);
        ask(state.name + ", and the second", x, OF_SECOND);
        CHECK.due(state.name + ": the tape is empty", x.end(1), -1);
        ask(state.name + ", the second and the first", read(x, FIRST, 8), OF_FIRST);
    }

    /** Promise 3: "-3 minus the place of the byte that is wrong, from 0; then there is no image." */
    private static void endWrong(State state) {
        CodeImages x = read(state.object.get(), wrongAt(FIRST.length - 1), -3 - (FIRST.length - 1));
        ask(state.name + ", and a wrong one", x, OF_NONE);
        CHECK.due(state.name + ": the tape is empty", x.feed(0, 0, 0, 0, 0), 20);
        CHECK.due(state.name + ": end of no byte", x.end(0), -3);
    }

    /** Promise 3: "NONE, and only the tape is empty, when n is below 0 or there are not so many." */
    private static void endNone(State state) {
        CodeImages x = state.object.get();
        CHECK.due(state.name + ": end(1) of an empty tape", x.end(1), -1);
        CHECK.due(state.name + ": end(-1) of an empty tape", x.end(-1), -1);
        ask(state.name + ", and NONE", refused(x, 41), state.due);
        CHECK.due(state.name + ": the tape is empty", x.feed(0, 0, 0, 0, 0), 20);
    }
}
