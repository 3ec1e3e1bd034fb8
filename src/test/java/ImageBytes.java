import java.util.ArrayList;
import java.util.HashMap;
import java.util.List;
import java.util.Map;

/** Writes an image byte by byte; bytes that a test wants to change bear a name. */
final class ImageBytes {
    private final List<Integer> bytes = new ArrayList<>();
    private final Map<String, Integer> names = new HashMap<>();

    ImageBytes put(int... more) {
        for (int b : more) {
            bytes.add(b & 255);
        }
        return this;
    }

    /** A number of two bytes. */
    ImageBytes pair(int number) {
        return put(number >> 8, number);
    }

    /** Names the byte that comes next. */
    ImageBytes name(String name) {
        if (names.put(name, bytes.size()) != null) {
            throw new IllegalStateException("two bytes of the name " + name);
        }
        return this;
    }

    int at(String name) {
        Integer place = names.get(name);
        if (place == null) {
            throw new IllegalStateException("no byte of the name " + name);
        }
        return place;
    }

    int size() {
        return bytes.size();
    }

    int[] bytes() {
        return bytes.stream().mapToInt(Integer::intValue).toArray();
    }

    /** The bytes, those from a named one on changed. */
    int[] with(String name, int... changed) {
        int[] all = bytes();
        System.arraycopy(changed, 0, all, at(name), changed.length);
        return all;
    }

    /** Feeds bytes, filled up with zeros to whole calls of feed. */
    static void feed(CodeImages x, int[] bytes) {
        for (int i = 0; i < bytes.length; i += 20) {
            x.feed(word(bytes, i), word(bytes, i + 4), word(bytes, i + 8),
                word(bytes, i + 12), word(bytes, i + 16));
        }
    }

    /** Feeds bytes, and ends the tape behind the last of them. */
    static int load(CodeImages x, int[] bytes) {
        feed(x, bytes);
        return x.end(bytes.length);
    }

    private static int word(int[] bytes, int at) {
        int word = 0;
        for (int i = at; i < at + 4; i++) {
            word = word << 8 | (i < bytes.length ? bytes[i] & 255 : 0);
        }
        return word;
    }
}
