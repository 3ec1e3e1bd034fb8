/** What an object without an image answers. */
final class NoImage {
    private NoImage() {
    }

    static void check(Check check, CodeImages x) {
        for (int what = 0; what < 3; what++) {
            check.due("without an image: count(" + what + ")", x.count(what), 0);
        }
        check.due("without an image: count(3)", x.count(3), -1);
        for (int what = 0; what < 10; what++) {
            check.due("without an image: classOf(0, " + what + ", 0)", x.classOf(0, what, 0), -1);
            check.due("without an image: method(0, " + what + ", 0)", x.method(0, what, 0), -1);
            check.due("without an image: handler(0, 0, " + what + ")", x.handler(0, 0, what), -1);
            check.due("without an image: instruction(0, 0, " + what + ")", x.instruction(0, 0, what), -1);
            check.due("without an image: thrown(" + what + ")", x.thrown(what), -1);
        }
        check.due("without an image: isA(0, 0)", x.isA(0, 0), false);
        check.due("without an image: isA(-1, -1)", x.isA(-1, -1), false);
    }
}
