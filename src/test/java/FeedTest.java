/** Promise 2: feed puts 20 bytes onto the tape, as long as there are not more than 8,000. */
public final class FeedTest {
    private static final Check CHECK = new Check("promise 2");

    public static void main(String[] args) {
        howManyBytes();
        highestByteFirst();
        eachByteOfACall();
        placeOfANumber();
        full();
        onTheFullTape();
        fullTapeIsEmptyBehindEnd();
        anyNumbers();
        CHECK.end();
    }

    /** "come onto the tape as 20 bytes: how many bytes it has." */
    private static void howManyBytes() {
        CodeImages x = new CodeImages();
        for (int i = 1; i <= 400; i++) {
            CHECK.due("feed " + i, x.feed(-1, -1, -1, -1, -1), 20 * i);
        }
        CHECK.due("end", x.end(20), -3);
        CHECK.due("feed behind an end", x.feed(0, 0, 0, 0, 0), 20);
        CHECK.due("feed behind it", x.feed(0, 0, 0, 0, 0), 40);
        CHECK.due("end that is refused", x.end(41), -1);
        CHECK.due("feed behind an end that was refused", x.feed(0, 0, 0, 0, 0), 20);
    }

    /** "the highest byte of each first": the smallest image, its bytes written in five numbers. */
    private static void highestByteFirst() {
        CodeImages x = new CodeImages();
        CHECK.due("feed", x.feed(0x01FF0000, 0x00000000, 0x0001FF00, 0xFF000000, 0x01250000), 20);
        CHECK.due("end(20)", x.end(20), 1);
        CHECK.due("instruction(0, 0, 0)", x.instruction(0, 0, 0), 0x25);
    }

    /** The first byte that is wrong is told for each of the 20 places of a call. */
    private static void eachByteOfACall() {
        int[] small = Samples.small().bytes();
        for (int place = 0; place < 20; place++) {
            int[] words = {0x01FF0000, 0x00000000, 0x0001FF00, 0xFF000000, 0x01250000};
            words[place / 4] = words[place / 4] & ~(255 << 24 - 8 * (place % 4)) | 200 << 24 - 8 * (place % 4);
            CodeImages x = new CodeImages();
            x.feed(words[0], words[1], words[2], words[3], words[4]);
            // A method of 200 bytes is right so far, but its code goes on behind the tape.
            int told = place == 16 ? 20 : place;
            CHECK.due("200 for " + small[place] + " at " + place, x.end(20), -3 - told);
        }
    }

    /** CONST i gives back the four bytes of a number, whichever of the five numbers they lie in. */
    private static void placeOfANumber() {
        for (int shift = 0; shift < 20; shift++) {
            Plan plan = new Plan(1, 1);
            plan.routine(0).code = Plan.returns(shift + 1);
            plan.routine(0).code[shift] = new int[] {0, 0x81, 0x02, 0x83, 0x04};
            CodeImages x = new CodeImages();
            CHECK.due("end", ImageBytes.load(x, plan.write().bytes()), 1 + shift);
            CHECK.due("the number behind " + shift, x.instruction(0, shift, 1), 0x81028304);
        }
    }

    /** "FULL when there would be more than 8,000." */
    private static void full() {
        CodeImages x = new CodeImages();
        for (int i = 0; i < 399; i++) {
            x.feed(0, 0, 0, 0, 0);
        }
        CHECK.due("the feed that fills the tape", x.feed(0, 0, 0, 0, 0), 8000);
        for (int i = 0; i < 50; i++) {
            CHECK.due("a feed behind it", x.feed(0, 0, 0, 0, 0), -2);
        }
        CHECK.due("end(8001)", x.end(8001), -1);
        CHECK.due("feed", x.feed(0, 0, 0, 0, 0), 20);
    }

    /** An image that fills the tape to its last byte: feeds that are refused change nothing of it. */
    private static void onTheFullTape() {
        Plan plan = fullPlan();
        for (int refused = 0; refused < 3; refused++) {
            CodeImages x = new CodeImages();
            ImageBytes.feed(x, plan.write().bytes());
            for (int i = 0; i < refused; i++) {
                CHECK.due("feed of the full tape", x.feed(-1, -1, -1, -1, -1), -2);
            }
            CHECK.due("end(8000)", x.end(8000), plan.instructions());
            CHECK.due("count(3)", x.count(3), 7);
            int last = plan.routine(7).code.length - 1;
            CHECK.due("place of the last instruction", x.method(7, 8, last), last);
            CHECK.due("the last instruction", x.instruction(7, last, 0), 25);
            CHECK.due("where it goes", x.instruction(7, last, 1), last);
            CHECK.due("behind it", x.instruction(7, last, 3), x.method(7, 6, 0));
            CHECK.due("the first instruction", x.instruction(0, 0, 0), 37);
            CHECK.due("thrown(0)", x.thrown(0), 0);
        }
    }

    /** An image of 8,000 bytes, its last instruction one that goes to itself. */
    static Plan fullPlan() {
        Plan plan = new Plan(1, 8);
        for (int m = 0; m < 7; m++) {
            plan.routine(m).code = Plan.returns(1000);
        }
        int last = 8000 - plan.write().size() + 1 - 3;
        plan.routine(7).code = Plan.returns(last + 1);
        plan.routine(7).code[last] = new int[] {25, last >> 8, last & 255};
        plan.first = 7;
        CHECK.due("bytes of the full plan", plan.write().size(), 8000);
        return plan;
    }

    private static void fullTapeIsEmptyBehindEnd() {
        for (int n : new int[] {0, 1, 8000, 8001, -1}) {
            CodeImages x = new CodeImages();
            ImageBytes.feed(x, new int[8000]);
            CHECK.due("feed of the full tape", x.feed(0, 0, 0, 0, 0), -2);
            CHECK.due("end(" + n + ")", x.end(n), n < 0 || n > 8000 ? -1 : -3);
            CHECK.due("feed behind end(" + n + ")", x.feed(0, 0, 0, 0, 0), 20);
        }
    }

    private static void anyNumbers() {
        for (int a : Numbers.all()) {
            CodeImages x = new CodeImages();
            CHECK.due("feed(" + a + ", ..)", x.feed(a, ~a, -a, a + 1, a - 1), 20);
            CHECK.due("feed(.., " + a + ")", x.feed(0, 0, 0, 0, a), 40);
        }
    }
}
