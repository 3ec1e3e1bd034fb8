/** Promise 1: a new object has no image and an empty tape. */
public final class NewObjectTest {
    public static void main(String[] args) {
        Check check = new Check("promise 1");
        CodeImages x = new CodeImages();
        check.due("NONE", CodeImages.NONE, -1);
        check.due("FULL", CodeImages.FULL, -2);
        NoImage.check(check, x);
        check.due("end(1)", x.end(1), -1);
        check.due("feed", x.feed(1, 2, 3, 4, 5), 20);
        CodeImages y = new CodeImages();
        check.due("feed of another object", y.feed(1, 2, 3, 4, 5), 20);
        check.due("end(0)", new CodeImages().end(0), -3);
        check.end();
    }
}
