/** Promises 28 to 33: the fraction, images, status, counts, the digest. */
public final class KeptTest {
    private static final Check CHECK = new Check("KeptTest");

    private static void part() {
        CHECK.promise(28, "part");
        DogsPostman x = new DogsPostman();
        CHECK.due("part(0) at first", x.part(0), 0);
        CHECK.due("part(1) at first", x.part(1), 1);
        CHECK.due("part(2)", x.part(2), -2);
        CHECK.due("part(-1)", x.part(-1), -2);
        CHECK.due("part(MIN)", x.part(Integer.MIN_VALUE), -2);
        CHECK.due("status(0)", x.status(0), 3);
        x.man(0, 0);
        x.dog(0, 3, 1, 1);
        x.strays(0, 5);
        CHECK.due("part(0)", x.part(0), 3);
        CHECK.due("part(1)", x.part(1), 2);
        x.strays(3, 5);
        CHECK.due("one refused changes nothing", x.part(0), 3);
    }

    private static void images() {
        CHECK.promise(29, "image");
        DogsPostman x = new DogsPostman();
        CHECK.due("image(-1)", x.image(-1), -2);
        CHECK.due("image(2)", x.image(2), -2);
        CHECK.due("image(0) of nothing", x.image(0), 1);
        CHECK.promise(30, "from");
        CHECK.due("from(-1)", x.from(-1), -2);
        CHECK.due("from(2)", x.from(2), -2);
        CHECK.due("from(1): none was kept", x.from(1), -3);
        CHECK.due("status(0)", x.status(0), 4);
        CHECK.due("status(1)", x.status(1), 1);
        x.man(2, 9);
        x.man(4, 8);
        x.dog(0, 3, 2, 0);
        x.dog(3, 1, 3, 1);
        x.note(1, 0, 2, 1);
        x.round(1);
        x.bribe(0, 1);
        CHECK.due("image(1)", x.image(1), 1);
        long kept = x.digest();
        x.undo();
        x.undo();
        x.round(5);
        x.man(0, 0);
        x.dog(4, 1, 1, 1);
        x.forget();
        CHECK.due("from(1)", x.from(1), 1);
        CHECK.due("digest()", x.digest(), kept);
        CHECK.due("candidates", x.count(0), 2);
        CHECK.due("asleep", x.about(1, 4), 1);
        CHECK.due("is", x.is(1), 63);
        CHECK.due("what may be undone is kept", x.count(5), 2);
        CHECK.due("undo()", x.undo(), 1);
        CHECK.due("ham is back", x.of(0, 1), 9);
        CHECK.due("undo()", x.undo(), 0);
        CHECK.due("holes are back", x.of(1, 2), 0);
        CHECK.due("undo()", x.undo(), -3);
        CHECK.due("from(1) again: it keeps", x.from(1), 1);
        CHECK.due("digest()", x.digest(), kept);
        CHECK.due("from(0), the other", x.from(0), 1);
        CHECK.due("nobody", x.count(0), 0);
        beside(x);
    }

    /** All of a full village is kept: four, seven, six notes, eight that may be undone. */
    private static void fullImage() {
        DogsPostman x = new DogsPostman();
        for (int i = 0; i < 7; i++) {
            if (i < 4) {
                x.man(i, 20 + i);
            }
            x.dog(i % 6, 1 + i % 5, 1 + i, i % 4);
        }
        for (int i = 0; i < 6; i++) {
            x.note(i, i % 2, 9 - i, i / 3);
        }
        for (int i = 0; i < 8; i++) {
            if (i % 3 == 2) {
                x.bribe(i % 4, i % 7);
            } else {
                x.round(1 + i);
            }
        }
        x.image(0);
        long[] due = wayBack(x);
        x.village();
        x.man(5, 5);
        x.man(5, 5);
        x.dog(2, 5, 9, 3);
        for (int i = 0; i < 9; i++) {
            x.round(20);
            x.note(0, 1, i, 1);
        }
        CHECK.due("from(0)", x.from(0), 1);
        long[] got = wayBack(x);
        for (int i = 0; i < due.length; i++) {
            CHECK.due("digest() behind " + i + " undone", got[i], due[i]);
        }
    }

    private static long[] wayBack(DogsPostman x) {
        long[] digests = new long[9];
        for (int i = 0; i < 9; i++) {
            digests[i] = x.digest();
            CHECK.due("undo() " + i + " is one", x.undo() >= 0 ? 1 : 0, i < 8 ? 1 : 0);
        }
        return digests;
    }

    /** The text, the fraction, status stay where they are. */
    private static void beside(DogsPostman x) {
        x.from(1);
        x.strays(1, 5);
        long above = x.part(0);
        Check.typeAll(x, "abc");
        int no = x.status(1);
        x.from(0);
        CHECK.due("the fraction stays", x.part(0), above);
        CHECK.due("it was some", above, 3);
        CHECK.due("the text stays", x.count(6), 3);
        CHECK.due("status stays", x.status(1), no);
        x.image(1);
        x.from(1);
        CHECK.due("a later image takes the place", x.count(1), 0);
    }

    private static void status() {
        CHECK.promise(31, "status");
        DogsPostman x = new DogsPostman();
        CHECK.due("status(3)", x.status(3), -1);
        CHECK.due("status(-1)", x.status(-1), -1);
        CHECK.due("status(0)", x.status(0), 2);
        x.undo();
        x.from(0);
        CHECK.due("status(1)", x.status(1), 2);
        for (int c = 0; c < 4; c++) {
            x.man(0, 0);
        }
        x.man(0, 0);
        CHECK.due("status(2)", x.status(2), 1);
        x.won(0, 0);
        x.still(0);
        x.bribes(0, 0);
        x.slept(0, 0, 1, 1);
        x.villages(0, 0);
        x.round(1);
        x.read();
        x.two(0, 1, 5);
        CHECK.due("NONE, a fault, not so many are none, BAD", x.status(0), 2);
        CHECK.due("NONE, a fault, not so many are none, NO", x.status(1), 2);
        CHECK.due("NONE, a fault, not so many are none, FULL", x.status(2), 1);
    }

    private static void count() {
        CHECK.promise(32, "count");
        DogsPostman x = new DogsPostman();
        x.man(0, 30);
        x.man(0, 30);
        x.dog(0, 1, 1, 0);
        x.dog(0, 1, 1, 0);
        x.dog(0, 1, 1, 0);
        x.round(7);
        x.bribe(0, 2);
        x.bribe(1, 1);
        x.note(0, 0, 0, 0);
        x.note(1, 0, 0, 0);
        x.note(2, 0, 0, 0);
        x.note(2, 0, 0, 0);
        Check.typeAll(x, "12345");
        int[] due = {2, 3, 7, 2, 4, 3, 5};
        for (int what = 0; what <= 6; what++) {
            CHECK.due("count(" + what + ")", x.count(what), due[what]);
        }
        CHECK.due("count(7)", x.count(7), -2);
        CHECK.due("count(-1)", x.count(-1), -2);
        CHECK.due("status(0)", x.status(0), 2);
    }

    private static void digest() {
        CHECK.promise(33, "digest");
        DogsPostman x = new DogsPostman();
        CHECK.due("digest() at first", x.digest(), of(0, 0, 0, 0, 0, 0, 0, 0, 1));
        x.man(3, 9);
        x.man(1, 8);
        x.dog(2, 3, 4, 1);
        x.dog(5, 2, 3, 3);
        x.round(1);
        x.bribe(1, 1);
        x.note(1, 0, 6, 1);
        x.note(0, 1, 7, 0);
        x.strays(0, 3);
        x.type(';');
        CHECK.due("digest()", x.digest(),
            of(2, 2, 1, 1, 2, 2, 1, 3, 9, 9, 1, 5, 3, 2, 3, 4, 1, 0, 5, 2, 3, 3, 1, 1, 0, 6, 1, 0, 1, 7, 0, 21, 5));
        long before = x.digest();
        x.undo();
        x.bribe(1, 1);
        CHECK.due("the same again", x.digest(), before);
        x.man(-1, 0);
        CHECK.due("status is not in it", x.digest(), before);
    }

    private static long of(int... values) {
        long h = 1367;
        for (int v : values) {
            h = 31 * h + v;
        }
        return h;
    }

    public static void main(String[] args) {
        part();
        images();
        fullImage();
        status();
        count();
        digest();
        CHECK.end();
    }
}
