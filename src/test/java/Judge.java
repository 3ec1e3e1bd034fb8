/** Reads images into new objects, and compares what end answers with what is due. */
final class Judge {
    private final Check check;

    Judge(String test) {
        check = new Check(test);
    }

    Check check() {
        return check;
    }

    void end() {
        check.end();
    }

    /** An image in which nothing is wrong: end answers its instructions. */
    CodeImages right(String name, Plan plan) {
        CodeImages x = new CodeImages();
        check.due(name + ": end", ImageBytes.load(x, plan.write().bytes()), plan.instructions());
        check.due(name + ": count(0)", x.count(0), plan.kinds.size());
        check.due(name + ": count(1)", x.count(1), plan.routines.size());
        check.due(name + ": count(2)", x.count(2), plan.instructions());
        check.due(name + ": count(3)", x.count(3), plan.first);
        return x;
    }

    /** An image of which a named byte is wrong. */
    void wrong(String name, Plan plan, String told) {
        ImageBytes image = plan.write();
        wrong(name, image.bytes(), image.at(told));
    }

    /** Wrong bytes, read where an image was before: afterwards there is none. */
    void wrong(String name, int[] bytes, int place) {
        CodeImages x = new CodeImages();
        check.due("an image before", ImageBytes.load(x, Samples.small().bytes()), 1);
        check.due(name + ": end", ImageBytes.load(x, bytes), -3 - place);
        for (int what = 0; what < 3; what++) {
            check.due(name + ": count(" + what + ")", x.count(what), 0);
        }
        check.due(name + ": count(3)", x.count(3), -1);
        check.due(name + ": classOf(0, 1, 0)", x.classOf(0, 1, 0), -1);
        check.due(name + ": method(0, 6, 0)", x.method(0, 6, 0), -1);
        check.due(name + ": instruction(0, 0, 0)", x.instruction(0, 0, 0), -1);
        check.due(name + ": thrown(0)", x.thrown(0), -1);
    }

    /** Right, or wrong at a named byte. */
    void judge(String name, Plan plan, boolean right, String told) {
        if (right) {
            right(name, plan);
        } else {
            wrong(name, plan, told);
        }
    }
}
