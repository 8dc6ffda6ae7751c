/** Promises 8 to 12: bribes, rounds, what is undone, what candidates and dogs are. */
public final class RoundsTest {
    private static final Check CHECK = new Check("RoundsTest");

    private static void bribe() {
        CHECK.promise(8, "bribe");
        DogsPostman x = new DogsPostman();
        x.man(3, 9);
        x.man(3, 4);
        x.dog(0, 2, 4, 2);
        x.dog(0, 1, 5, 2);
        x.dog(0, 1, 1, 2);
        CHECK.due("bribe(-1, 0)", x.bribe(-1, 0), -2);
        CHECK.due("bribe(2, 0)", x.bribe(2, 0), -2);
        CHECK.due("bribe(0, -1)", x.bribe(0, -1), -2);
        CHECK.due("bribe(0, 3)", x.bribe(0, 3), -2);
        CHECK.due("bribe(MIN, MAX)", x.bribe(Integer.MIN_VALUE, Integer.MAX_VALUE), -2);
        CHECK.due("bribe(1, 1): not so much", x.bribe(1, 1), -3);
        CHECK.due("ham stays", x.of(1, 1), 4);
        CHECK.due("bribe(1, 0): all of it", x.bribe(1, 0), 0);
        CHECK.due("asleep", x.about(0, 4), 1);
        CHECK.due("bribe(0, 0): asleep", x.bribe(0, 0), -3);
        CHECK.due("bribe(0, 1)", x.bribe(0, 1), 4);
        CHECK.due("ham of the one", x.of(0, 1), 4);
        CHECK.due("asleep are two", x.count(3), 2);
        CHECK.due("may be undone", x.count(5), 2);
        CHECK.due("status(0)", x.status(0), 5);
        CHECK.due("status(1)", x.status(1), 2);
        CHECK.due("bitten by the one awake", x.bitten(0, 0), 4);
    }

    private static void round() {
        CHECK.promise(9, "round");
        DogsPostman x = new DogsPostman();
        CHECK.due("round(0)", x.round(0), -2);
        CHECK.due("round(31)", x.round(31), -2);
        CHECK.due("round(-1)", x.round(-1), -2);
        CHECK.due("nothing to undo", x.count(5), 0);
        CHECK.due("round(30) without anybody", x.round(30), -1);
        CHECK.due("count(2)", x.count(2), 30);
        CHECK.due("together one", x.count(5), 1);
        x.village();
        x.man(3, 9);
        x.man(4, 0);
        x.man(8, 0);
        x.dog(0, 2, 4, 0);
        x.dog(2, 3, 4, 1);
        x.bribe(0, 0);
        // Round 0: dog 0 sleeps; dog 1 (mastiff, 6 wide, 2 bites) bites 0 and 2.
        CHECK.due("round(1)", x.round(1), 0);
        CHECK.due("holes of 0", x.of(0, 2), 6);
        CHECK.due("holes of 1", x.of(1, 2), 0);
        CHECK.due("holes of 2", x.of(2, 2), 6);
        CHECK.due("nobody sleeps", x.count(3), 0);
        // Round 1 begins with 1: dog 0 bites 1 alone (2 has boots 8, 0 is its favourite); dog 1 bites 2 and 0.
        // Round 2 begins with 2: the same.
        CHECK.due("round(2)", x.round(2), 1);
        CHECK.due("holes of 0", x.of(0, 2), 18);
        CHECK.due("holes of 1", x.of(1, 2), 4);
        CHECK.due("holes of 2", x.of(2, 2), 18);
        CHECK.due("count(2)", x.count(2), 3);
        CHECK.due("of like ones the first goes", x.won(0, 1), 0);
    }

    /** Who comes first in a round is seen by a dog with two bites among four. */
    private static void order() {
        DogsPostman x = new DogsPostman();
        for (int c = 0; c < 4; c++) {
            x.man(0, 0);
        }
        x.dog(0, 1, 1, 2);
        int[][] due = {{1, 1, 0, 0}, {1, 2, 0, 1}, {2, 2, 0, 2}, {3, 2, 0, 3}, {4, 3, 0, 3}};
        for (int r = 0; r < due.length; r++) {
            x.round(1);
            for (int c = 0; c < 4; c++) {
                CHECK.due("holes of " + c + " behind round " + r, x.of(c, 2), due[r][c]);
            }
        }
    }

    private static void lastRound() {
        DogsPostman x = new DogsPostman();
        x.man(0, 9);
        x.dog(0, 1, 1, 3);
        for (int i = 0; i < 33; i++) {
            x.round(30);
        }
        CHECK.due("count(2)", x.count(2), 990);
        x.bribe(0, 0);
        CHECK.due("at 999 none goes by", x.round(30), 0);
        CHECK.due("count(2)", x.count(2), 999);
        CHECK.due("holes", x.of(0, 2), 998);
        CHECK.due("awake", x.count(3), 0);
        x.bribe(0, 0);
        CHECK.due("none goes by", x.round(1), 0);
        CHECK.due("holes stay", x.of(0, 2), 998);
        CHECK.due("who sleeps, sleeps on", x.count(3), 1);
        CHECK.due("bitten in round 999", x.bitten(0, 1), 0);
        CHECK.due("beyond 999", x.then(0, 30), 998 + 29);
        CHECK.due("it may be undone", x.undo(), 999);
        CHECK.due("the bribe is there yet", x.count(3), 1);
        CHECK.due("the bribe", x.undo(), 999);
        CHECK.due("awake", x.count(3), 0);
        CHECK.due("bitten in round 999", x.bitten(0, 1), 1);
        CHECK.due("ham", x.of(0, 1), 8);
        CHECK.due("the nine", x.undo(), 990);
        CHECK.due("holes", x.of(0, 2), 990);
        CHECK.due("asleep again", x.count(3), 1);
    }

    private static void undo() {
        CHECK.promise(10, "undo");
        DogsPostman x = new DogsPostman();
        x.man(0, 30);
        x.dog(0, 1, 2, 3);
        CHECK.due("undo()", x.undo(), -3);
        CHECK.due("status(1)", x.status(1), 1);
        x.round(3);
        x.bribe(0, 0);
        CHECK.due("a bribe undone", x.undo(), 3);
        CHECK.due("ham", x.of(0, 1), 30);
        CHECK.due("awake", x.about(0, 4), 0);
        CHECK.due("rounds undone", x.undo(), 0);
        CHECK.due("holes", x.of(0, 2), 0);
        CHECK.due("no more", x.undo(), -3);
        x.round(1);
        x.man(10, 0);
        x.dog(9, 0, 0, 0);
        x.round(0);
        x.bribe(0, 5);
        CHECK.due("one refused may not be undone", x.count(5), 1);
        x.note(0, 1, 1, 1);
        x.forget();
        CHECK.due("notes change nothing of it", x.count(5), 1);
        x.man(0, 0);
        CHECK.due("behind a candidate", x.undo(), -3);
        x.round(1);
        x.dog(0, 1, 1, 1);
        CHECK.due("behind a dog", x.undo(), -3);
        CHECK.due("count(2)", x.count(2), 2);
        for (int i = 0; i < 9; i++) {
            x.round(i + 1);
        }
        CHECK.due("eight at most", x.count(5), 8);
        int[] due = {38, 30, 23, 17, 12, 8, 5, 3};
        for (int r : due) {
            CHECK.due("undo() to " + r, x.undo(), r);
        }
        CHECK.due("a ninth", x.undo(), -3);
        CHECK.due("count(2)", x.count(2), 3);
        x.note(0, 0, 5, 1);
        x.round(1);
        x.note(0, 1, 5, 1);
        x.undo();
        CHECK.due("notes are not undone", x.count(4), 2);
    }

    private static void of() {
        CHECK.promise(11, "of");
        DogsPostman x = new DogsPostman();
        CHECK.due("of(0, 0) of nobody", x.of(0, 0), -2);
        x.man(4, 17);
        x.man(9, 3);
        x.dog(2, 5, 3, 1);
        x.round(1);
        CHECK.due("of(0, 0)", x.of(0, 0), 4);
        CHECK.due("of(0, 1)", x.of(0, 1), 17);
        CHECK.due("of(0, 2)", x.of(0, 2), 10);
        CHECK.due("of(1, 0)", x.of(1, 0), 9);
        CHECK.due("of(1, 1)", x.of(1, 1), 3);
        CHECK.due("of(1, 2)", x.of(1, 2), 0);
        CHECK.due("of(2, 0)", x.of(2, 0), -2);
        CHECK.due("of(-1, 0)", x.of(-1, 0), -2);
        CHECK.due("of(0, 3)", x.of(0, 3), -2);
        CHECK.due("of(0, -1)", x.of(0, -1), -2);
        CHECK.due("status(0)", x.status(0), 5);
    }

    private static void about() {
        CHECK.promise(12, "about");
        DogsPostman x = new DogsPostman();
        CHECK.due("about(0, 0) of none", x.about(0, 0), -2);
        x.man(0, 30);
        int[] wide = {4, 0, 8, 4, 8, 5};
        int[] bites = {2, 2, 2, 3, 1, 3};
        for (int kind = 0; kind < 6; kind++) {
            x.dog(kind, 4, 2, kind % 4);
        }
        x.bribe(0, 4);
        for (int kind = 0; kind < 6; kind++) {
            int[] due = {kind, 4, 2, kind % 4, kind == 4 ? 1 : 0, wide[kind], bites[kind]};
            for (int what = 0; what <= 6; what++) {
                CHECK.due("about(" + kind + ", " + what + ")", x.about(kind, what), due[what]);
            }
        }
        CHECK.due("about(0, 7)", x.about(0, 7), -2);
        CHECK.due("about(0, -1)", x.about(0, -1), -2);
        CHECK.due("about(6, 0)", x.about(6, 0), -2);
        CHECK.due("about(-1, 0)", x.about(-1, 0), -2);
        CHECK.due("status(0)", x.status(0), 5);
    }

    public static void main(String[] args) {
        bribe();
        round();
        order();
        lastRound();
        undo();
        of();
        about();
        CHECK.end();
    }
}
