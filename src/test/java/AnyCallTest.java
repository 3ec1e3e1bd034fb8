import java.util.Random;

/**
 * No call throws or fails to end, for any arguments in any state: runs of calls in
 * any order, each answer compared with a tape and an image that the test keeps itself.
 */
public final class AnyCallTest {
    private static final Check CHECK = new Check("any calls");
    private static final int RUNS = 3000;
    private static final int CALLS = 512;

    private final Random random;
    private final RandomImages images;
    private final CodeImages x = new CodeImages();
    private final int[] tape = new int[8000];
    private int used = 0;
    private Oracle image = null;
    private int left = CALLS;

    private AnyCallTest(long seed) {
        random = new Random(seed);
        images = new RandomImages(seed);
    }

    public static void main(String[] args) {
        for (int run = 0; run < RUNS; run++) {
            new AnyCallTest(run).run();
        }
        CHECK.end();
    }

    private void run() {
        while (left > 0) {
            int kind = random.nextInt(40);
            if (kind == 0) {
                feedImage();
            } else if (kind == 1) {
                end(random.nextInt(3) == 0 ? number() : random.nextInt(used + 2));
            } else if (kind == 2) {
                feed(number(), number(), number(), number(), number());
            } else {
                ask();
            }
        }
    }

    private int number() {
        int[] all = Numbers.all();
        return random.nextInt(4) == 0 ? random.nextInt() : all[random.nextInt(all.length)];
    }

    /** A number that is often in its range. */
    private int near(int bound) {
        return random.nextInt(5) == 0 ? number() : random.nextInt(bound + 2) - 1;
    }

    private void feed(int... words) {
        if (left == 0) {
            return;
        }
        left--;
        boolean fits = used + 20 <= 8000;
        for (int i = 0; fits && i < 20; i++) {
            tape[used + i] = words[i / 4] >>> 24 - 8 * (i % 4) & 255;
        }
        used += fits ? 20 : 0;
        CHECK.due("feed", x.feed(words[0], words[1], words[2], words[3], words[4]), fits ? used : -2);
    }

    /** An image, some of its bytes changed perhaps, read at once. */
    private void feedImage() {
        end(random.nextInt(used + 1));
        int[] bytes = images.next();
        if (random.nextInt(3) == 0) {
            bytes[random.nextInt(bytes.length)] = random.nextInt(256);
        }
        for (int i = 0; i < bytes.length; i += 20) {
            int[] words = new int[5];
            for (int k = 0; k < 20; k++) {
                words[k / 4] = words[k / 4] << 8 | (i + k < bytes.length ? bytes[i + k] : 0);
            }
            feed(words);
        }
        end(bytes.length);
    }

    private void end(int n) {
        if (left == 0) {
            return;
        }
        left--;
        int due = -1;
        if (n >= 0 && n <= used) {
            try {
                image = new Oracle(java.util.Arrays.copyOf(tape, n));
                due = image.instructions();
            } catch (Oracle.Wrong wrong) {
                image = null;
                due = -3 - wrong.place;
            }
        }
        used = 0;
        CHECK.due("end(" + n + ")", x.end(n), due);
    }

    private void ask() {
        left--;
        int what = near(10);
        int c = near(8);
        int m = near(8);
        int k = near(20);
        switch (random.nextInt(7)) {
            case 0 -> CHECK.due("count(" + what + ")", x.count(what), Oracle.count(image, what));
            case 1 -> CHECK.due("classOf(" + c + ", " + what + ", " + k + ")", x.classOf(c, what, k),
                Oracle.classFact(image, c, what, k));
            case 2 -> CHECK.due("isA(" + c + ", " + m + ")", x.isA(c, m), Oracle.isA(image, c, m));
            case 3 -> CHECK.due("method(" + m + ", " + what + ", " + k + ")", x.method(m, what, k),
                Oracle.methodFact(image, m, what, k));
            case 4 -> CHECK.due("handler(" + m + ", " + c + ", " + what + ")", x.handler(m, c, what),
                Oracle.handlerFact(image, m, c, what));
            case 5 -> CHECK.due("instruction(" + m + ", " + k + ", " + what + ")", x.instruction(m, k, what),
                Oracle.instructionFact(image, m, k, what));
            default -> CHECK.due("thrown(" + what + ")", x.thrown(what), Oracle.fault(image, what));
        }
    }
}
