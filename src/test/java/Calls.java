import java.util.regex.Matcher;
import java.util.regex.Pattern;

/** Calls that are told as text, as in "classOf(1, 2, 0)", so that tables and the README can tell them. */
final class Calls {
    private static final Pattern CALL = Pattern.compile("(\\w+)\\(([^)]*)\\)");

    private Calls() {
    }

    /** Makes a call; its answer as text. */
    static String answer(CodeImages x, String call) {
        Matcher parts = CALL.matcher(call);
        if (!parts.matches()) {
            throw new IllegalArgumentException("no call: " + call);
        }
        int[] a = numbers(parts.group(2));
        switch (parts.group(1)) {
            case "feed":
                return String.valueOf(x.feed(a[0], a[1], a[2], a[3], a[4]));
            case "end":
                return String.valueOf(x.end(a[0]));
            case "count":
                return String.valueOf(x.count(a[0]));
            case "classOf":
                return String.valueOf(x.classOf(a[0], a[1], a[2]));
            case "isA":
                return String.valueOf(x.isA(a[0], a[1]));
            case "method":
                return String.valueOf(x.method(a[0], a[1], a[2]));
            case "handler":
                return String.valueOf(x.handler(a[0], a[1], a[2]));
            case "instruction":
                return String.valueOf(x.instruction(a[0], a[1], a[2]));
            case "thrown":
                return String.valueOf(x.thrown(a[0]));
            default:
                throw new IllegalArgumentException("no method: " + call);
        }
    }

    private static int[] numbers(String arguments) {
        String[] told = arguments.split(",");
        int[] numbers = new int[told.length];
        for (int i = 0; i < told.length; i++) {
            numbers[i] = Long.decode(told[i].trim()).intValue();
        }
        return numbers;
    }
}
