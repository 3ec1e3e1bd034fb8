/** Promise 3: which bytes end reads, and what of the tape and of the image it leaves. */
public final class EndEdgesTest {
    private static final Check CHECK = new Check("promise 3, tape and image");
    private static final int[] TAPES = {0, 20, 40, 7980, 8000};
    private static final int[] FULL = Samples.full().bytes();
    private static final int INSTRUCTIONS = Samples.CODE.length + 6;

    public static void main(String[] args) {
        for (boolean before : new boolean[] {false, true}) {
            ofNoBytes(before);
            ofAllBytes(before);
            notSoMany(before);
            below0(before);
            wrongImage(before);
            rightImage(before);
        }
        onlyTheTapeIsEmpty();
        noImageBehindAWrongOne();
        anotherImage();
        otherBeginnings();
        bytesLeftBehindN();
        howManyInstructions();
        lastPlaces();
        CHECK.end();
    }

    /** An object with so many bytes 255 on the tape, with an image before or without. */
    private static CodeImages with(boolean before, int tape) {
        CodeImages x = new CodeImages();
        if (before) {
            CHECK.due("end of the image before", ImageBytes.load(x, FULL), INSTRUCTIONS);
        }
        for (int i = 1; i <= tape / 20; i++) {
            CHECK.due("feed", x.feed(-1, -1, -1, -1, -1), 20 * i);
        }
        return x;
    }

    /** The image that was there is there, or none if there was none. */
    private static void imageIs(CodeImages x, boolean there) {
        if (there) {
            CHECK.due("count(0)", x.count(0), 3);
            CHECK.due("count(1)", x.count(1), 6);
            CHECK.due("count(2)", x.count(2), INSTRUCTIONS);
            CHECK.due("count(3)", x.count(3), 0);
            CHECK.due("classOf(1, 2, 3)", x.classOf(1, 2, 3), 67);
            CHECK.due("isA(1, 0)", x.isA(1, 0), true);
            CHECK.due("method(5, 2, 6)", x.method(5, 2, 6), 67);
            CHECK.due("handler(0, 0, 1)", x.handler(0, 0, 1), 77);
            CHECK.due("instruction(0, 0, 1)", x.instruction(0, 0, 1), 0x80000001);
            CHECK.due("thrown(3)", x.thrown(3), 1);
        } else {
            NoImage.check(CHECK, x);
        }
    }

    private static void tapeIsEmpty(CodeImages x) {
        CHECK.due("feed of an empty tape", x.feed(0, 0, 0, 0, 0), 20);
    }

    /** n = 0: the end is wrong, at place 0. */
    private static void ofNoBytes(boolean before) {
        for (int tape : TAPES) {
            CodeImages x = with(before, tape);
            CHECK.due("end(0) of " + tape, x.end(0), -3);
            imageIs(x, false);
            tapeIsEmpty(x);
        }
    }

    /** n = the tape's length: the bytes 255 are no image. */
    private static void ofAllBytes(boolean before) {
        for (int tape : TAPES) {
            CodeImages x = with(before, tape);
            CHECK.due("end of all " + tape, x.end(tape), -3);
            imageIs(x, false);
            tapeIsEmpty(x);
        }
    }

    /** "NONE, and only the tape is empty, when .. there are not so many" */
    private static void notSoMany(boolean before) {
        for (int tape : TAPES) {
            for (int n : new int[] {tape + 1, tape + 2, tape + 20, 8001, 65536, 1 << 30, Numbers.MAX - 1, Numbers.MAX}) {
                CodeImages x = with(before, tape);
                CHECK.due("end(" + n + ") of " + tape, x.end(n), -1);
                imageIs(x, before);
                CHECK.due("end(1) behind it", x.end(1), -1);
                tapeIsEmpty(x);
                CHECK.due("count(1) behind it", x.count(1), before ? 6 : 0);
            }
        }
    }

    /** "NONE, and only the tape is empty, when n is below 0" */
    private static void below0(boolean before) {
        for (int tape : TAPES) {
            for (int n : new int[] {-1, -2, -3, -20, -8000, -65536, Numbers.MIN + 1, Numbers.MIN}) {
                CodeImages x = with(before, tape);
                CHECK.due("end(" + n + ") of " + tape, x.end(n), -1);
                imageIs(x, before);
                CHECK.due("end(1) behind it", x.end(1), -1);
                tapeIsEmpty(x);
                CHECK.due("count(1) behind it", x.count(1), before ? 6 : 0);
            }
        }
    }

    /** "-3 minus the place of the byte that is wrong, from 0; then there is no image." */
    private static void wrongImage(boolean before) {
        for (int place = 0; place < 20; place++) {
            int[] small = Samples.small().bytes();
            CodeImages x = with(before, 0);
            ImageBytes.feed(x, small);
            CHECK.due("end(" + place + ")", x.end(place), -3 - place);
            imageIs(x, false);
            tapeIsEmpty(x);
        }
    }

    /** "The tape's first n bytes are an image, and the tape is empty" */
    private static void rightImage(boolean before) {
        CodeImages x = with(before, 0);
        CHECK.due("end of a right image", ImageBytes.load(x, Samples.small().bytes()), 1);
        CHECK.due("count(0)", x.count(0), 1);
        CHECK.due("count(1)", x.count(1), 1);
        CHECK.due("end(1) of an empty tape", x.end(1), -1);
        tapeIsEmpty(x);
        CHECK.due("count(2)", x.count(2), 1);
    }

    /** Feeds, refused feeds and refused ends leave every answer of an image as it was. */
    private static void onlyTheTapeIsEmpty() {
        CodeImages x = with(true, 0);
        imageIs(x, true);
        for (int i = 0; i < 300; i++) {
            x.feed(-1, -1, -1, -1, -1);
        }
        imageIs(x, true);
        CHECK.due("end(6001)", x.end(6001), -1);
        imageIs(x, true);
        tapeIsEmpty(x);
        CHECK.due("end(-1)", x.end(-1), -1);
        imageIs(x, true);
    }

    /** Wherever the wrong byte stands, nothing of the image before is left, nor of the wrong one. */
    private static void noImageBehindAWrongOne() {
        for (int n = 0; n < FULL.length; n++) {
            CodeImages x = with(true, 0);
            ImageBytes.feed(x, FULL);
            CHECK.due("end(" + n + ")", x.end(n), -3 - n);
            NoImage.check(CHECK, x);
        }
        for (String name : new String[] {"slotm00", "h0from", "m4place", "first"}) {
            CodeImages x = with(true, 0);
            CHECK.due(name + " = 99: end", ImageBytes.load(x, Samples.full().with(name, 99)),
                -3 - Samples.full().at(name));
            NoImage.check(CHECK, x);
            CHECK.due("end(-1) without an image", x.end(-1), -1);
            NoImage.check(CHECK, x);
            CHECK.due("a right image behind it", ImageBytes.load(x, FULL), INSTRUCTIONS);
            imageIs(x, true);
        }
    }

    /** Of an image that was there before nothing is left in the next one. */
    private static void anotherImage() {
        CodeImages x = with(true, 0);
        CHECK.due("end of the small image", ImageBytes.load(x, Samples.small().bytes()), 1);
        CHECK.due("classOf(0, 1, 0)", x.classOf(0, 1, 0), 0);
        CHECK.due("classOf(0, 2, 0)", x.classOf(0, 2, 0), -1);
        for (int k = 0; k < 16; k++) {
            CHECK.due("classOf(0, 3, " + k + ")", x.classOf(0, 3, k), -1);
        }
        CHECK.due("classOf(1, 1, 0)", x.classOf(1, 1, 0), -1);
        CHECK.due("method(0, 7, 0)", x.method(0, 7, 0), 1);
        CHECK.due("method(0, 9, 0)", x.method(0, 9, 0), 0);
        CHECK.due("method(1, 1, 0)", x.method(1, 1, 0), -1);
        CHECK.due("handler(0, 0, 0)", x.handler(0, 0, 0), -1);
        for (int place = 1; place < 80; place++) {
            CHECK.due("instruction(0, " + place + ", 0)", x.instruction(0, place, 0), -1);
        }
        CHECK.due("thrown(0)", x.thrown(0), 0);
        CHECK.due("end of the full image", ImageBytes.load(x, FULL), INSTRUCTIONS);
        imageIs(x, true);
    }

    /** Where an instruction began in the image before, none begins in this one. */
    private static void otherBeginnings() {
        for (int place = 0; place < 13; place++) {
            Plan returns = new Plan(1, 1);
            returns.routine(0).code = Plan.returns(13);
            Plan plan = new Plan(1, 1);
            plan.routine(0).code = new int[][] {{0, 0, 0, 0, 0}, {0, 37, 37, 37, 37}, {25, 0, place}};
            boolean begins = place == 0 || place == 5 || place == 10;
            CodeImages x = new CodeImages();
            CHECK.due("end of RETURNs", ImageBytes.load(x, returns.write().bytes()), 13);
            CHECK.due("end with GOTO " + place, ImageBytes.load(x, plan.write().bytes()),
                begins ? 3 : -3 - plan.write().at("code 0 2 1"));
            plan.routine(0).code[2][2] = 10;
            CHECK.due("end of RETURNs", ImageBytes.load(x, returns.write().bytes()), 13);
            CHECK.due("instruction at " + place, x.instruction(0, place, 0), 37);
            CHECK.due("end with GOTO 10", ImageBytes.load(x, plan.write().bytes()), 3);
            CHECK.due("instruction at " + place, x.instruction(0, place, 0), !begins ? -1 : place == 10 ? 25 : 0);
        }
    }

    /** The bytes behind the first n are gone with the tape. */
    private static void bytesLeftBehindN() {
        CodeImages x = new CodeImages();
        ImageBytes.feed(x, Samples.small().bytes());
        ImageBytes.feed(x, FULL);
        CHECK.due("end(20)", x.end(20), 1);
        CHECK.due("count(1)", x.count(1), 1);
        CHECK.due("end of what was behind", x.end(FULL.length), -1);
        CHECK.due("count(1)", x.count(1), 1);
        CHECK.due("feed", x.feed(0x01FF0000, 0, 0x0001FF00, 0xFF000000, 0x01250000), 20);
        CHECK.due("end(20)", x.end(20), 1);
    }

    /** "how many instructions all methods have" */
    private static void howManyInstructions() {
        for (int methods : new int[] {1, 2, 63, 64}) {
            Plan plan = new Plan(1, methods);
            int due = 0;
            for (int m = 0; m < methods; m++) {
                plan.routine(m).code = Plan.returns(m + 1);
                plan.routine(m).code[m] = new int[] {0, 37, 37, 37, 37};
                due += m + 1;
            }
            CHECK.due(methods + " methods: end", ImageBytes.load(new CodeImages(), plan.write().bytes()), due);
        }
    }

    /** The last places that can be told: the byte 7,999, and the end of the full tape. */
    private static void lastPlaces() {
        Plan plan = FeedTest.fullPlan();
        CHECK.due("the full tape", ImageBytes.load(new CodeImages(), plan.write().bytes()), plan.instructions());
        plan.first = 8;
        CHECK.due("its last byte wrong", ImageBytes.load(new CodeImages(), plan.write().bytes()), -3 - 7999);
        plan.first = 7;
        plan.routine(7).code = Plan.returns(Plan.lengthOf(plan.routine(7).code) + 1);
        CodeImages x = new CodeImages();
        ImageBytes.feed(x, plan.write().bytes());
        CHECK.due("its end wrong", x.end(8000), -3 - 8000);
        NoImage.check(CHECK, x);
    }
}
