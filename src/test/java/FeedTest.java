/** Promise 2: feed puts 20 bytes onto the tape, as long as there are not more than 8,000. */
public final class FeedTest {
    public static void main(String[] args) {
        Check check = new Check("promise 2");
        CodeImages x = new CodeImages();
        for (int i = 1; i <= 400; i++) {
            check.due("feed " + i, x.feed(-1, -1, -1, -1, -1), 20 * i);
        }
        check.due("feed 401", x.feed(0, 0, 0, 0, 0), -2);
        check.due("feed 402", x.feed(0, 0, 0, 0, 0), -2);
        check.due("end(8000)", x.end(8000), -3);
        check.due("feed after the end", x.feed(0, 0, 0, 0, 0), 20);
        check.due("end(21)", x.end(21), -1);
        check.due("feed after an end that was refused", x.feed(0, 0, 0, 0, 0), 20);
        orderOfBytes(check);
        wholeTape(check);
        check.end();
    }

    /** CONST i gives back the four bytes of a number, whichever of the five it is. */
    private static void orderOfBytes(Check check) {
        for (int shift = 0; shift < 20; shift++) {
            ImageBytes image = new ImageBytes();
            image.put(1, 255, 0, 0).put(0, 0, 0, 0, 0).put(1).put(255, 0, 255, 0, 0).pair(5 + shift);
            for (int i = 0; i < shift; i++) {
                image.put(37);
            }
            image.put(0, 0x81, 0x02, 0x83, 0x04).put(0, 0);
            CodeImages x = new CodeImages();
            check.due("end", ImageBytes.load(x, image.bytes()), 1 + shift);
            check.due("the number behind " + shift, x.instruction(0, shift, 1), 0x81028304);
        }
    }

    /** An image that fills the tape to its last byte, the next feed being refused. */
    private static void wholeTape(Check check) {
        ImageBytes image = new ImageBytes();
        image.put(1, 255, 0, 0).put(0, 0, 0, 0, 0).put(8);
        for (int m = 0; m < 8; m++) {
            int length = m < 7 ? 1000 : 8000 - image.size() - 9;
            image.put(255, 0, 255, 0, 0).pair(length);
            for (int i = 0; i < length; i++) {
                image.put(37);
            }
            image.put(0);
        }
        image.put(7);
        CodeImages x = new CodeImages();
        ImageBytes.feed(x, image.bytes());
        check.due("feed of the full tape", x.feed(1, 1, 1, 1, 1), -2);
        check.due("end(8000)", x.end(8000), 8000 - 10 - 8 * 8 - 1);
        check.due("count(3)", x.count(3), 7);
        check.due("method(7, 8, last)", x.method(7, 8, x.method(7, 7, 0) - 1), x.method(7, 6, 0) - 1);
    }
}
