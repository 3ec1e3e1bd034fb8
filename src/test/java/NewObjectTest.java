/** Promise 1: "No image; the tape is empty.", for every call on a new object. */
public final class NewObjectTest {
    private static final Check CHECK = new Check("promise 1");

    public static void main(String[] args) {
        constants();
        NoImage.check(CHECK, new CodeImages());
        noImageForAnyArgument();
        noImageForAnyArguments();
        emptyTape();
        objectsApart();
        CHECK.end();
    }

    private static void constants() {
        CHECK.due("NONE", CodeImages.NONE, -1);
        CHECK.due("FULL", CodeImages.FULL, -2);
    }

    /** Each call with one argument, the first one on its object. */
    private static void noImageForAnyArgument() {
        for (int a : Numbers.all()) {
            CHECK.due("count(" + a + ")", new CodeImages().count(a), a >= 0 && a <= 2 ? 0 : -1);
            CHECK.due("thrown(" + a + ")", new CodeImages().thrown(a), -1);
            CHECK.due("end(" + a + ")", new CodeImages().end(a), a == 0 ? -3 : -1);
            CHECK.due("feed(" + a + ", ..)", new CodeImages().feed(a, a, a, a, a), 20);
        }
    }

    private static void noImageForAnyArguments() {
        for (int a : Numbers.few()) {
            for (int b : Numbers.few()) {
                CodeImages x = new CodeImages();
                CHECK.due("isA(" + a + ", " + b + ")", x.isA(a, b), false);
                for (int c : Numbers.few()) {
                    String arguments = "(" + a + ", " + b + ", " + c + ")";
                    CHECK.due("classOf" + arguments, x.classOf(a, b, c), -1);
                    CHECK.due("method" + arguments, x.method(a, b, c), -1);
                    CHECK.due("handler" + arguments, x.handler(a, b, c), -1);
                    CHECK.due("instruction" + arguments, x.instruction(a, b, c), -1);
                }
            }
        }
    }

    private static void emptyTape() {
        for (int n = 1; n <= 21; n++) {
            CHECK.due("end(" + n + ")", new CodeImages().end(n), -1);
        }
        CHECK.due("end(8000)", new CodeImages().end(8000), -1);
        CodeImages x = new CodeImages();
        CHECK.due("first feed", x.feed(1, 2, 3, 4, 5), 20);
        CHECK.due("second feed", x.feed(1, 2, 3, 4, 5), 40);
    }

    /** Neither the tape nor the image of one object is another's. */
    private static void objectsApart() {
        CodeImages x = new CodeImages();
        CHECK.due("end of one", ImageBytes.load(x, Samples.full().bytes()), Samples.CODE.length + 6);
        CHECK.due("feed of one", x.feed(1, 2, 3, 4, 5), 20);
        CodeImages y = new CodeImages();
        NoImage.check(CHECK, y);
        CHECK.due("feed of the other", y.feed(1, 2, 3, 4, 5), 20);
        CHECK.due("end of the other, wrong", y.end(20), -3);
        CHECK.due("count(1) of the one", x.count(1), 6);
    }
}
