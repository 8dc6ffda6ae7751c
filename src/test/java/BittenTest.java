/** Promises 13 to 20: who is bitten, who wins, and what would have to be done. */
public final class BittenTest {
    private static final Check CHECK = new Check("BittenTest");

    /** Whom each kind bites, favourite or not, in boots 0 to 9: one candidate, one dog. */
    private static void kinds() {
        CHECK.promise(13, "bitten");
        int[] below = {8, 8, 10, 8, 10, 5};
        int[] belowFavourite = {0, 0, 0, 8, 0, 5};
        int[] wide = {3, 0, 6, 3, 6, 4};
        for (int kind = 0; kind < 6; kind++) {
            for (int b = 0; b < 10; b++) {
                for (int favourite = 0; favourite < 2; favourite++) {
                    DogsPostman x = new DogsPostman();
                    x.man(b, 0);
                    x.dog(kind, 3, 1, favourite);
                    boolean bites = b < (favourite == 0 ? belowFavourite[kind] : below[kind]);
                    String who = "of kind " + kind + ", boots " + b + ", favourite " + favourite;
                    CHECK.due("bitten(0, 0) " + who, x.bitten(0, 0), bites ? 1 : 0);
                    CHECK.due("bitten(0, 1) " + who, x.bitten(0, 1), bites ? wide[kind] : 0);
                }
            }
        }
    }

    /** How many of four each kind bites, by who comes first. */
    private static void manyBites() {
        int[] bites = {2, 2, 2, 3, 1, 3};
        DogsPostman x = new DogsPostman();
        for (int c = 0; c < 4; c++) {
            x.man(0, 0);
        }
        for (int kind = 0; kind < 6; kind++) {
            x.dog(kind, 1, 1, 3);
        }
        for (int r = 0; r < 9; r++) {
            for (int c = 0; c < 4; c++) {
                int due = 0;
                for (int kind = 0; kind < 6; kind++) {
                    boolean spares = kind != 3 && kind != 5;
                    int place = Math.floorMod(c - r, 4);
                    int ahead = spares && Math.floorMod(3 - r, 4) < place ? place - 1 : place;
                    due |= ahead < bites[kind] && !(spares && c == 3) ? 1 << kind : 0;
                }
                CHECK.due("bitten(" + c + ", 0) in round " + r, x.bitten(c, 0), due);
            }
            x.round(1);
        }
        CHECK.due("bitten(0, 2)", x.bitten(0, 2), -2);
        CHECK.due("bitten(0, -1)", x.bitten(0, -1), -2);
        CHECK.due("bitten(4, 0)", x.bitten(4, 0), -2);
        CHECK.due("bitten(-1, 0)", x.bitten(-1, 0), -2);
        CHECK.due("status(0)", x.status(0), 4);
    }

    /** All that there may be, and less behind it. */
    private static void most() {
        DogsPostman x = new DogsPostman();
        for (int c = 0; c < 4; c++) {
            x.man(c, 0);
        }
        for (int k = 0; k < 7; k++) {
            x.dog(2, 1 + k % 5, 1, 3);
        }
        CHECK.due("bitten(0, 0) by seven", x.bitten(0, 0), 127);
        CHECK.due("bitten(0, 1) by seven", x.bitten(0, 1), 2 * (1 + 2 + 3 + 4 + 5 + 1 + 2));
        // Bitten are 0 and 1, 1 and 2, 2 and 0, 0 and 1.
        CHECK.due("won(2, 1) of four", x.won(2, 1), 1);
        CHECK.due("won(2, 0) of four", x.won(2, 0), 0);
        CHECK.due("won(3, 1) of four", x.won(3, 1), 0);
        CHECK.due("won(4, 0) of four", x.won(4, 0), 2);
        x.round(4);
        x.village();
        CHECK.due("won(0, 1) of nobody", x.won(0, 1), -1);
        x.man(0, 0);
        x.dog(0, 1, 1, 3);
        CHECK.due("bitten(0, 0) by one", x.bitten(0, 0), 1);
        CHECK.due("bitten(0, 1) by one", x.bitten(0, 1), 1);
        CHECK.due("won(1, 1) of one", x.won(1, 1), 0);
        CHECK.due("letters() of one", x.letters(), 1);
    }

    /** Boots 3, 8, 5; dogs as in a village of the document's tests, dog 0 asleep. */
    private static DogsPostman hill() {
        DogsPostman x = new DogsPostman();
        x.man(3, 9);
        x.man(8, 4);
        x.man(5, 12);
        x.dog(0, 2, 3, 0);
        x.dog(2, 3, 5, 1);
        x.dog(3, 1, 2, 2);
        x.dog(5, 4, 9, 0);
        x.bribe(0, 0);
        return x;
    }

    private static void then() {
        CHECK.promise(14, "then");
        DogsPostman x = hill();
        int[] due0 = {0, 12, 24, 36};
        int[] due2 = {0, 7, 16, 25};
        for (int m = 0; m <= 3; m++) {
            CHECK.due("then(0, " + m + ")", x.then(0, m), due0[m]);
            CHECK.due("then(1, " + m + ")", x.then(1, m), 0);
            CHECK.due("then(2, " + m + ")", x.then(2, m), due2[m]);
        }
        CHECK.due("then(2, 30)", x.then(2, 30), 7 + 29 * 9);
        CHECK.due("nothing is changed", x.count(2), 0);
        CHECK.due("nobody wakes", x.count(3), 1);
        x.round(2);
        CHECK.due("then(2, 0) behind two", x.then(2, 0), 16);
        CHECK.due("then(0, -1)", x.then(0, -1), -2);
        CHECK.due("then(0, 31)", x.then(0, 31), -2);
        CHECK.due("then(3, 0)", x.then(3, 0), -2);
        CHECK.due("then(-1, 0)", x.then(-1, 0), -2);
        CHECK.due("status(0)", x.status(0), 4);
    }

    private static void won() {
        CHECK.promise(15, "won");
        DogsPostman none = new DogsPostman();
        CHECK.due("won(0, 0) of nobody", none.won(0, 0), -1);
        CHECK.due("won(30, 1) of nobody", none.won(30, 1), -1);
        DogsPostman x = hill();
        CHECK.due("won(0, 0)", x.won(0, 0), -1);
        CHECK.due("won(0, 1)", x.won(0, 1), -1);
        CHECK.due("won(1, 0): an unbitten one is nobody", x.won(1, 0), 2);
        CHECK.due("won(1, 1)", x.won(1, 1), 0);
        CHECK.due("won(30, 0)", x.won(30, 0), 2);
        CHECK.due("won(-1, 0)", x.won(-1, 0), -2);
        CHECK.due("won(31, 0)", x.won(31, 0), -2);
        CHECK.due("won(0, 2)", x.won(0, 2), -2);
        CHECK.due("won(0, -1)", x.won(0, -1), -2);
        CHECK.due("status(0)", x.status(0), 4);
        DogsPostman one = new DogsPostman();
        one.man(0, 0);
        one.dog(0, 1, 1, 3);
        CHECK.due("one hole is enough, postman", one.won(1, 0), 0);
        CHECK.due("one hole is enough, to go", one.won(1, 1), 0);
        DogsPostman like = new DogsPostman();
        like.man(9, 0);
        like.man(0, 0);
        like.man(0, 0);
        like.dog(0, 4, 1, 3);
        CHECK.due("of like ones the first is postman", like.won(1, 0), 1);
        CHECK.due("of like ones the first goes", like.won(1, 1), 1);
    }

    private static void letters() {
        CHECK.promise(16, "letters");
        DogsPostman x = hill();
        CHECK.due("letters(), who sleeps too", x.letters(), 11);
        x.round(1);
        CHECK.due("letters() behind a round", x.letters(), 11);
        DogsPostman soon = new DogsPostman();
        soon.man(0, 9);
        soon.man(0, 9);
        soon.dog(0, 1, 1, 1);
        soon.dog(4, 1, 1, 3);
        // Behind round 0 candidate 0 has 3 and 1 none; behind round 1 they have 4 and 2.
        CHECK.due("letters() of this round, not the next", soon.letters(), 3);
        CHECK.due("won(1, 0)", soon.won(1, 0), 0);
        CHECK.due("won(2, 0)", soon.won(2, 0), 1);
        soon.round(1);
        CHECK.due("letters() of the next", soon.letters(), 2);
        DogsPostman nobody = new DogsPostman();
        CHECK.due("letters() of no dogs", nobody.letters(), 0);
        nobody.dog(0, 1, 1, 0);
        nobody.dog(0, 1, 1, 3);
        CHECK.due("letters() of nobody", nobody.letters(), 3);
        nobody.man(0, 0);
        CHECK.due("letters() of 0", nobody.letters(), 2);
        CHECK.due("nothing is changed", nobody.count(2), 0);
    }

    private static void bribes() {
        CHECK.promise(17, "bribes");
        DogsPostman x = new DogsPostman();
        x.man(0, 9);
        x.man(0, 10);
        x.man(0, 8);
        x.dog(0, 4, 9, 1);
        x.dog(0, 1, 4, 1);
        x.dog(0, 1, 4, 1);
        x.dog(4, 1, 2, 0);
        // Round 0: dogs 0, 1, 2 bite 0 and 2, 6 each; dog 3 bites 1, 2.
        CHECK.due("bribes(1, 0): for nothing", x.bribes(1, 0), 0);
        CHECK.due("bribes(1, 1): none", x.bribes(1, 1), 0);
        // If dog 3 sleeps, 1 is bitten by none and 0 wins; 2 is always like 0, and behind it.
        CHECK.due("bribes(0, 0)", x.bribes(0, 0), 2);
        CHECK.due("bribes(0, 1)", x.bribes(0, 1), 8);
        CHECK.due("bribes(2, 0)", x.bribes(2, 0), -1);
        CHECK.due("bribes(2, 1)", x.bribes(2, 1), -1);
        CHECK.due("nothing is changed", x.of(0, 1), 9);
        CHECK.due("nobody sleeps", x.count(3), 0);
        CHECK.due("bribes(3, 0)", x.bribes(3, 0), -2);
        CHECK.due("bribes(-1, 0)", x.bribes(-1, 0), -2);
        CHECK.due("bribes(0, 2)", x.bribes(0, 2), -2);
        CHECK.due("bribes(0, -1)", x.bribes(0, -1), -2);
        CHECK.due("status(0)", x.status(0), 4);
        // An old dog bites 0, 1, 0: 4 and 2; in round 3 it would bite 1, and 0 would win.
        DogsPostman all = new DogsPostman();
        all.man(0, 30);
        all.man(0, 30);
        all.dog(4, 1, 5, 3);
        all.round(3);
        CHECK.due("bribes(0, 0)", all.bribes(0, 0), 0);
        CHECK.due("bribes(1, 0): all dogs must sleep", all.bribes(1, 0), 5);
        CHECK.due("bribes(1, 1): all dogs must sleep", all.bribes(1, 1), 1);
        all.dog(0, 2, 9, 0);
        all.dog(0, 3, 9, 0);
        all.dog(0, 2, 7, 0);
        CHECK.due("bribes(1, 0): all ham there can be", all.bribes(1, 0), 30);
        CHECK.due("bribes(1, 1)", all.bribes(1, 1), 15);
        all.dog(0, 2, 1, 0);
        CHECK.due("bribes(1, 0): more than there can be", all.bribes(1, 0), -1);
        // Dogs 1 and 2 are alike: dog 1 is the least set; then dog 1 sleeps already, and dog 2 is left.
        DogsPostman y = new DogsPostman();
        y.man(0, 4);
        y.man(0, 4);
        y.dog(2, 2, 5, 0);
        y.dog(2, 2, 4, 1);
        y.dog(2, 2, 4, 1);
        CHECK.due("bribes(0, 0)", y.bribes(0, 0), 4);
        CHECK.due("bribes(0, 1), the least bits", y.bribes(0, 1), 2);
        CHECK.due("bribes(1, 0)", y.bribes(1, 0), 0);
        y.bribe(1, 1);
        CHECK.due("like ones: the first wins", y.bribes(0, 0), 0);
        CHECK.due("bribes(1, 0): no ham", y.bribes(1, 0), -1);
        y.round(1);
        CHECK.due("by holes that were there, 4 each", y.bribes(0, 0), 4);
        y.round(1);
        CHECK.due("by holes that were there, 12 and 8", y.bribes(0, 0), -1);
    }

    private static void still() {
        CHECK.promise(18, "still");
        DogsPostman x = new DogsPostman();
        x.man(1, 0);
        CHECK.due("still(0) of no dogs", x.still(0), -1);
        CHECK.due("still(1)", x.still(1), -2);
        CHECK.due("still(-1)", x.still(-1), -2);
        CHECK.due("status(0)", x.status(0), 2);
        DogsPostman y = new DogsPostman();
        y.man(1, 9);
        y.man(1, 9);
        y.dog(0, 1, 3, 0);
        y.dog(0, 2, 3, 1);
        CHECK.due("still(1): at once", y.still(1), 1);
        CHECK.due("still(0)", y.still(0), -1);
        for (int i = 0; i < 3; i++) {
            y.bribe(0, 1);
            y.round(1);
        }
        // 0 has none, 1 has 3; from now on 2 and 1 a round: 0 is below 1 up to 2 rounds and like it in the third.
        CHECK.due("still(0)", y.still(0), 1);
        CHECK.due("still(1): 0 has 8, 1 has 7", y.still(1), 4);
        y.bribe(1, 0);
        CHECK.due("who sleeps now sleeps in the first", y.still(1), 3);
        CHECK.due("nothing is changed", y.count(2), 3);
        // An old dog (2 wide) bites the first of each round, a mastiff (2 wide) 0 and 2 in each:
        // 4 0 2; 6 2 4; 8 2 8.
        DogsPostman w = new DogsPostman();
        w.man(1, 9);
        w.man(1, 9);
        w.man(1, 9);
        w.dog(4, 1, 3, 3);
        w.dog(2, 1, 3, 1);
        CHECK.due("still(0)", w.still(0), -1);
        CHECK.due("still(1)", w.still(1), 2);
        CHECK.due("still(2)", w.still(2), 1);
        w.round(1);
        CHECK.due("still(1) in round 1", w.still(1), 1);
        w.bribe(0, 0);
        // 6 0 4; 8 0 8; 12 0 10; 14 2 12.
        CHECK.due("still(0) in round 1, dog 0 asleep", w.still(0), 2);
        CHECK.due("still(1) in round 1, dog 0 asleep", w.still(1), 4);
        CHECK.due("still(2) in round 1, dog 0 asleep", w.still(2), 1);
        w.undo();
        w.undo();
        w.bribe(0, 0);
        w.bribe(1, 1);
        // 0 0 0; 2 2 2; 4 2 6.
        CHECK.due("all asleep in the first", w.still(0), 2);
        CHECK.due("all asleep in the first", w.still(1), 3);
        CHECK.due("all asleep in the first", w.still(2), -1);
        DogsPostman z = new DogsPostman();
        z.man(1, 0);
        z.man(1, 30);
        z.dog(0, 1, 1, 0);
        z.dog(0, 2, 1, 1);
        for (int i = 0; i < 29; i++) {
            z.bribe(1, 1);
            z.round(1);
        }
        CHECK.due("still(1) behind 29: 30 rounds", z.still(1), 30);
        z.bribe(1, 1);
        z.round(1);
        CHECK.due("still(1) behind 30: none", z.still(1), -1);
    }

    private static void first() {
        CHECK.promise(19, "first");
        DogsPostman x = new DogsPostman();
        for (int c = 0; c < 4; c++) {
            x.man(2, 9);
        }
        x.dog(0, 3, 5, 0);
        x.dog(4, 2, 4, 1);
        // Dog 0 (3 wide) bites the first two but 0; dog 1 (4 wide) the first but 1.
        int[][] wide = {{4, 0, 0, 0}, {3, 3, 0, 3}, {3, 7, 7, 0}, {0, 0, 3, 7}};
        int[] which = {1, 2, 3, 0};
        for (int c = 0; c < 4; c++) {
            for (int s = 0; s < 4; s++) {
                CHECK.due("bitten(" + c + ", 1), " + s + " first", x.bitten(c, 1), wide[c][s]);
                x.round(1);
            }
            CHECK.due("first(" + c + ", 0)", x.first(c, 0), which[c]);
            CHECK.due("first(" + c + ", 1)", x.first(c, 1), 0);
        }
        x.round(1);
        x.bribe(0, 1);
        CHECK.due("a dog asleep does not count", x.first(0, 0), 0);
        CHECK.due("nor do holes that were there", x.first(2, 1), 0);
        CHECK.due("first(4, 0)", x.first(4, 0), -2);
        CHECK.due("first(-1, 0)", x.first(-1, 0), -2);
        CHECK.due("first(0, 2)", x.first(0, 2), -2);
        CHECK.due("first(0, -1)", x.first(0, -1), -2);
        CHECK.due("status(0)", x.status(0), 4);
    }

    private static void slept() {
        CHECK.promise(20, "slept");
        DogsPostman x = new DogsPostman();
        x.man(0, 9);
        CHECK.due("slept of no dogs, 0", x.slept(0, 0, 0, 0), 1);
        CHECK.due("slept of no dogs, 1", x.slept(0, 0, 0, 1), 0);
        CHECK.due("slept of no dogs, 2", x.slept(0, 0, 0, 2), 0);
        x.dog(0, 2, 1, 3);
        x.dog(0, 2, 1, 3);
        x.dog(0, 4, 1, 3);
        x.dog(1, 5, 1, 3);
        x.bribe(0, 1);
        // 0, 1 wide 2, 2 wide 4, 3 a puppy: by 4 either 2 alone is awake, or 0 and 1.
        CHECK.due("slept(0, 0, 4, 0)", x.slept(0, 0, 4, 0), 4);
        CHECK.due("slept(0, 0, 4, 1)", x.slept(0, 0, 4, 1), 0);
        CHECK.due("slept(0, 0, 4, 2)", x.slept(0, 0, 4, 2), 15);
        CHECK.due("slept(0, 0, 2, 1)", x.slept(0, 0, 2, 1), 4);
        CHECK.due("slept(0, 0, 8, 0)", x.slept(0, 0, 8, 0), 2);
        CHECK.due("slept(0, 0, 8, 2)", x.slept(0, 0, 8, 2), 8);
        CHECK.due("slept(0, 0, 3, 0)", x.slept(0, 0, 3, 0), 0);
        CHECK.due("slept(0, 0, 3, 1)", x.slept(0, 0, 3, 1), -1);
        CHECK.due("slept(0, 0, 3, 2)", x.slept(0, 0, 3, 2), 0);
        CHECK.due("slept(99, 0, 200, 0)", x.slept(99, 0, 200, 0), 0);
        int[][] wrong = {{-1, 0, 0, 0}, {100, 0, 0, 0}, {0, -1, 0, 0}, {0, 1, 0, 0}, {0, 0, -1, 0}, {0, 0, 201, 0},
            {0, 0, 0, -1}, {0, 0, 0, 3}};
        for (int[] w : wrong) {
            CHECK.due("slept" + java.util.Arrays.toString(w), x.slept(w[0], w[1], w[2], w[3]), -2);
        }
        CHECK.due("status(0)", x.status(0), wrong.length);
        x.man(0, 0);
        x.man(0, 0);
        // Dog 4 bites but the first: in round 99 that is 0, in round 98 it is 2.
        x.dog(4, 1, 1, 3);
        CHECK.due("in round 99 it bit 0", x.slept(99, 0, 10, 1), 0);
        CHECK.due("in round 98 it did not", x.slept(98, 0, 10, 0), 0);
        CHECK.due("in round 98 it bit 2", x.slept(98, 2, 10, 0), 2);
    }

    public static void main(String[] args) {
        kinds();
        manyBites();
        most();
        then();
        won();
        letters();
        bribes();
        still();
        first();
        slept();
        CHECK.end();
    }
}
