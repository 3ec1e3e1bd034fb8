/** An object with an image, made anew before it has answered more calls than the document promises. */
final class Loaded {
    private static final int CALLS = 512;

    private final int[] before;
    private final int[] bytes;
    private CodeImages x;
    private int left;
    private int answer;

    Loaded(int[] bytes) {
        this(new int[0], bytes);
    }

    /** The bytes are read behind others, as far as both leave calls for answers. */
    Loaded(int[] before, int[] bytes) {
        this.before = (before.length + bytes.length) / 20 < CALLS / 2 ? before : new int[0];
        this.bytes = bytes;
        load();
    }

    private void load() {
        x = new CodeImages();
        left = CALLS - feeds(bytes) - 1;
        if (before.length > 0) {
            ImageBytes.load(x, before);
            left -= feeds(before) + 1;
        }
        answer = ImageBytes.load(x, bytes);
    }

    private static int feeds(int[] bytes) {
        return (bytes.length + 19) / 20;
    }

    /** What end answered. */
    int answer() {
        return answer;
    }

    /** The object, for one call. */
    CodeImages x() {
        if (left == 0) {
            load();
        }
        left--;
        return x;
    }
}
