import java.util.ArrayList;
import java.util.List;

/**
 * An image told part by part, so that a test changes one part and all others
 * stay right. Each byte that a test may want to point at bears a name.
 */
final class Plan {
    static final int RETURN = 37;

    static final class Kind {
        int upper = 255;
        int[] fields = {};
        /** Of each slot that is told the slot and its method. */
        int[][] slots = {};
    }

    static final class Routine {
        int owner = 255;
        int[] told = {};
        int gives = 255;
        int locals = 0;
        int stack = 0;
        /** Each instruction with its operands. */
        int[][] code = {{RETURN}};
        /** Told as the length of the code when it is not the true one. */
        int length = -1;
        /** Of each handler the places from and to, the class, the place. */
        int[][] handlers = {};
    }

    final List<Kind> kinds = new ArrayList<>();
    int[] thrown = {0, 0, 0, 0, 0};
    final List<Routine> routines = new ArrayList<>();
    int first = 0;
    /** Bytes behind the image. */
    int[] behind = {};

    /** So many classes without an upper one and so many methods of the one instruction RETURN. */
    Plan(int classes, int methods) {
        for (int c = 0; c < classes; c++) {
            kinds.add(new Kind());
        }
        for (int m = 0; m < methods; m++) {
            routines.add(new Routine());
        }
    }

    Kind kind(int c) {
        return kinds.get(c);
    }

    Routine routine(int m) {
        return routines.get(m);
    }

    /** A method behind the others with an owner and as many locals as parameters; its number. */
    int addOwned(int owner, int gives, int... told) {
        Routine routine = new Routine();
        routine.owner = owner;
        routine.gives = gives;
        routine.told = told;
        routine.locals = told.length + (owner == 255 ? 0 : 1);
        routines.add(routine);
        return routines.size() - 1;
    }

    int instructions() {
        return routines.stream().mapToInt(routine -> routine.code.length).sum();
    }

    ImageBytes write() {
        ImageBytes out = new ImageBytes();
        out.name("classes").put(kinds.size());
        for (int c = 0; c < kinds.size(); c++) {
            writeKind(out, c, kinds.get(c));
        }
        for (int k = 0; k < thrown.length; k++) {
            out.name("thrown " + k).put(thrown[k]);
        }
        out.name("methods").put(routines.size());
        for (int m = 0; m < routines.size(); m++) {
            writeHead(out, m, routines.get(m));
            writeCode(out, m, routines.get(m));
        }
        return out.name("first").put(first).name("behind").put(behind);
    }

    private static void writeKind(ImageBytes out, int c, Kind kind) {
        out.name("upper " + c).put(kind.upper).name("fields " + c).put(kind.fields.length);
        for (int k = 0; k < kind.fields.length; k++) {
            out.name("field " + c + " " + k).put(kind.fields[k]);
        }
        out.name("slots " + c).put(kind.slots.length);
        for (int k = 0; k < kind.slots.length; k++) {
            out.name("slot " + c + " " + k).put(kind.slots[k][0]);
            out.name("slot's method " + c + " " + k).put(kind.slots[k][1]);
        }
    }

    private static void writeHead(ImageBytes out, int m, Routine routine) {
        out.name("owner " + m).put(routine.owner).name("told " + m).put(routine.told.length);
        for (int k = 0; k < routine.told.length; k++) {
            out.name("parameter " + m + " " + k).put(routine.told[k]);
        }
        out.name("gives " + m).put(routine.gives);
        out.name("locals " + m).put(routine.locals).name("stack " + m).put(routine.stack);
    }

    private static void writeCode(ImageBytes out, int m, Routine routine) {
        int length = routine.length >= 0 ? routine.length : lengthOf(routine.code);
        out.name("length " + m).put(length >> 8).name("length's low " + m).put(length);
        for (int i = 0; i < routine.code.length; i++) {
            for (int k = 0; k < routine.code[i].length; k++) {
                out.name("code " + m + " " + i + " " + k).put(routine.code[i][k]);
            }
        }
        out.name("handlers " + m).put(routine.handlers.length);
        for (int k = 0; k < routine.handlers.length; k++) {
            int[] handler = routine.handlers[k];
            out.name("from " + m + " " + k).pair(handler[0]).name("to " + m + " " + k).pair(handler[1]);
            out.name("class " + m + " " + k).put(handler[2]).name("place " + m + " " + k).pair(handler[3]);
        }
    }

    static int lengthOf(int[][] code) {
        int length = 0;
        for (int[] instruction : code) {
            length += instruction.length;
        }
        return length;
    }

    /** So many times the instruction RETURN. */
    static int[][] returns(int count) {
        int[][] code = new int[count][];
        java.util.Arrays.fill(code, new int[] {RETURN});
        return code;
    }
}
