import java.io.IOException;
import java.nio.file.Files;
import java.nio.file.Path;
import java.util.Arrays;
import java.util.List;
import java.util.regex.Matcher;
import java.util.regex.Pattern;

/** The example of README.md: its bytes are those that it feeds, and each call answers what it says. */
public final class ReadmeTest {
    private static final Check CHECK = new Check("README.md");
    private static final Pattern CALL = Pattern.compile("x\\.(\\w+\\([^)]*\\)); *// (true|false|-?\\d+)\\b.*");

    public static void main(String[] args) throws IOException {
        String text = Files.readString(Path.of("README.md"));
        calls(block(text, "java"));
        bytes(block(text, "text"), block(text, "java"));
        CHECK.end();
    }

    /** The lines of the first block of a language. */
    private static List<String> block(String text, String language) {
        Matcher block = Pattern.compile("(?s)```" + language + "\n(.*?)```").matcher(text);
        CHECK.due("a block of " + language, block.find(), true);
        return Arrays.asList(block.group(1).split("\n"));
    }

    private static void calls(List<String> lines) {
        CodeImages x = new CodeImages();
        CHECK.due("the first line", lines.get(0), "CodeImages x = new CodeImages();");
        for (String line : lines.subList(1, lines.size())) {
            Matcher call = CALL.matcher(line);
            CHECK.due("is a call with its answer: " + line, call.matches(), true);
            CHECK.due(call.group(1), Calls.answer(x, call.group(1)), call.group(2));
        }
    }

    private static void bytes(List<String> told, List<String> calls) {
        ImageBytes image = new ImageBytes();
        for (String line : told) {
            for (String number : line.replaceAll("[^\\d ].*", "").trim().split(" +")) {
                image.put(Integer.parseInt(number));
            }
        }
        CHECK.due("end of the image as told", ImageBytes.load(new CodeImages(), image.bytes()), 9);
        ImageBytes fed = new ImageBytes();
        Matcher word = Pattern.compile("0x([0-9A-F]{8})").matcher(String.join("\n", calls));
        while (fed.size() < image.size() && word.find()) {
            int number = Integer.parseUnsignedInt(word.group(1), 16);
            fed.pair(number >>> 16).pair(number);
        }
        for (int i = 0; i < image.size(); i++) {
            CHECK.due("byte " + i + " that is fed", fed.bytes()[i], image.bytes()[i]);
        }
    }
}
