/** Promises 21 to 27: notes, what a dog is, two who bribe, odds, seeds. */
public final class GuessTest {
    private static final Check CHECK = new Check("GuessTest");

    private static void note() {
        CHECK.promise(21, "note");
        DogsPostman x = new DogsPostman();
        CHECK.due("note of no dog", x.note(0, 0, 0, 0), -2);
        x.dog(0, 1, 1, 0);
        x.dog(0, 1, 1, 0);
        CHECK.due("note(0, 0, 0, 0)", x.note(0, 0, 0, 0), 1);
        CHECK.due("note(1, 1, 9, 1)", x.note(1, 1, 9, 1), 2);
        int[][] wrong = {{-1, 0, 0, 0}, {2, 0, 0, 0}, {0, -1, 0, 0}, {0, 2, 0, 0}, {0, 0, -1, 0}, {0, 0, 10, 0},
            {0, 0, 0, -1}, {0, 0, 0, 2}};
        for (int[] w : wrong) {
            CHECK.due("note" + java.util.Arrays.toString(w), x.note(w[0], w[1], w[2], w[3]), -2);
        }
        for (int i = 3; i <= 6; i++) {
            CHECK.due("note " + i + ", told twice it stands twice", x.note(0, 0, 0, 0), i);
        }
        CHECK.due("a seventh", x.note(0, 0, 0, 0), -4);
        CHECK.due("a seventh, wrong: BAD is first", x.note(0, 0, 0, 2), -2);
        CHECK.due("count(4)", x.count(4), 6);
        CHECK.due("status(0)", x.status(0), wrong.length + 2);
        CHECK.due("status(2)", x.status(2), 1);
        CHECK.promise(22, "forget");
        CHECK.due("forget()", x.forget(), 6);
        CHECK.due("forget() again", x.forget(), 0);
        CHECK.due("count(4)", x.count(4), 0);
        CHECK.due("is(0) is free again", x.is(0), 63);
        CHECK.due("note(0, 1, 0, 1)", x.note(0, 1, 0, 1), 1);
    }

    private static void is() {
        CHECK.promise(23, "is");
        int[] below = {8, 8, 10, 8, 10, 5};
        int[] belowFavourite = {0, 0, 0, 8, 0, 5};
        for (int favourite = 0; favourite < 2; favourite++) {
            for (int b = 0; b < 10; b++) {
                int biting = 0;
                for (int kind = 0; kind < 6; kind++) {
                    biting |= b < (favourite == 1 ? belowFavourite : below)[kind] ? 1 << kind : 0;
                }
                DogsPostman x = new DogsPostman();
                x.dog(2, 1, 1, 0);
                x.dog(5, 1, 1, 0);
                CHECK.due("is(1) without notes", x.is(1), 63);
                x.note(1, favourite, b, 1);
                CHECK.due("is(1), bit " + favourite + " " + b, x.is(1), biting);
                CHECK.due("is(0) stays", x.is(0), 63);
                x.forget();
                x.note(1, favourite, b, 0);
                CHECK.due("is(1), did not bite " + favourite + " " + b, x.is(1), 63 - biting);
                x.note(1, favourite, b, 1);
                CHECK.due("is(1), both", x.is(1), 0);
            }
        }
        DogsPostman x = new DogsPostman();
        CHECK.due("is(0) of none", x.is(0), -2);
        x.dog(0, 1, 1, 0);
        CHECK.due("is(-1)", x.is(-1), -2);
        CHECK.due("is(1)", x.is(1), -2);
        CHECK.due("status(0)", x.status(0), 3);
    }

    private static void send() {
        CHECK.promise(24, "send");
        DogsPostman x = new DogsPostman();
        CHECK.due("send(0) of none", x.send(0), -2);
        x.dog(0, 1, 1, 0);
        x.dog(0, 1, 1, 0);
        // All six: in boots 8 two bite, four do not; no question parts them by three.
        CHECK.due("send(0) of all", x.send(0), 8);
        x.note(0, 1, 0, 0);
        // 0, 1, 2, 4: in boots 8 the last two bite.
        CHECK.due("send(0) of 15 less", x.send(0), 8);
        x.note(0, 0, 9, 0);
        // 0 and 1 are alike in all.
        CHECK.due("is(0)", x.is(0), 3);
        CHECK.due("send(0) of two that are alike", x.send(0), 0);
        x.note(0, 0, 9, 1);
        CHECK.due("send(0) of no kind", x.send(0), -1);
        x.forget();
        x.note(1, 1, 4, 1);
        // 3 and 5: boots 5 part them.
        CHECK.due("send(1) of 3 and 5", x.send(1), 5);
        CHECK.due("send(0) stays", x.send(0), 8);
        x.note(1, 0, 5, 1);
        CHECK.due("send(1) of 3 alone", x.send(1), 0);
        x.forget();
        x.note(1, 0, 9, 0);
        x.note(1, 0, 7, 1);
        // 0, 1, 3 (not 5, for boots 7): only to a favourite do they differ.
        CHECK.due("is(1)", x.is(1), 11);
        CHECK.due("send(1): a favourite in boots 0", x.send(1), 10);
        CHECK.due("send(2)", x.send(2), -2);
        CHECK.due("send(-1)", x.send(-1), -2);
        CHECK.due("status(0)", x.status(0), 3);
    }

    private static void twoAre(String village, DogsPostman x, int a, int b, int... pairs) {
        CHECK.due("two, " + village, x.two(a, b, -1), pairs.length);
        for (int k = 0; k < pairs.length; k++) {
            CHECK.due("two, the " + k + "-th, " + village, x.two(a, b, k), pairs[k]);
        }
        CHECK.due("two, not so many, " + village, x.two(a, b, pairs.length), -5);
        CHECK.due("two, not so many, " + village, x.two(a, b, Integer.MAX_VALUE), -5);
    }

    private static void two() {
        CHECK.promise(25, "two");
        DogsPostman x = new DogsPostman();
        CHECK.due("two of nobody", x.two(0, 1, -1), -10);
        x.man(0, 0);
        x.man(0, 0);
        twoAre("no dogs", x, 0, 1, 63);
        // One dog, 2 wide, bites both: one bribes it, whatever its hunger, the other does not.
        x.dog(0, 2, 9, 3);
        twoAre("one dog, 2 wide", x, 0, 1, 7, 56);
        x.village();
        x.man(0, 0);
        x.man(0, 0);
        x.dog(0, 1, 9, 3);
        twoAre("one dog, 1 wide: none is as good", x, 0, 1, 7, 56, 63);
        x.village();
        x.man(0, 9);
        x.man(0, 9);
        x.dog(2, 1, 1, 3);
        x.dog(2, 1, 1, 3);
        twoAre("two dogs", x, 0, 1, 1, 8);
        x.bribe(0, 0);
        twoAre("one of them asleep", x, 1, 0, 15, 57);
        x.village();
        x.man(0, 9);
        x.man(8, 9);
        x.dog(0, 2, 1, 3);
        twoAre("it bites the first alone", x, 0, 1, 7);
        twoAre("told the other way", x, 1, 0, 56);
        x.dog(2, 1, 1, 0);
        twoAre("each has a dog", x, 0, 1, 1);
        CHECK.due("nothing is changed", x.count(3), 0);
        int before = x.status(0);
        CHECK.due("alike", x.two(1, 1, 0), -10);
        CHECK.due("a below", x.two(-1, 0, 0), -10);
        CHECK.due("a above", x.two(2, 0, 0), -10);
        CHECK.due("b below", x.two(0, -1, 0), -10);
        CHECK.due("b above", x.two(0, 2, 0), -10);
        CHECK.due("k below -1", x.two(0, 1, -2), -10);
        CHECK.due("they count as BAD", x.status(0), before + 6);
        CHECK.due("not so many counts as none of them, NO", x.status(1), 0);
        CHECK.due("not so many counts as none of them, FULL", x.status(2), 0);
    }

    private static void strayed(DogsPostman x, int a, int c, int above, int below) {
        CHECK.due("strays(" + a + ", " + c + ")", x.strays(a, c), 1);
        CHECK.due("above", x.part(0), above);
        CHECK.due("below", x.part(1), below);
    }

    private static void strays() {
        CHECK.promise(26, "strays");
        DogsPostman x = new DogsPostman();
        CHECK.due("strays of nobody", x.strays(0, 0), -2);
        x.man(0, 9);
        x.man(9, 9);
        strayed(x, 0, 5, 0, 1);
        x.dog(0, 5, 1, 3);
        x.dog(2, 1, 1, 1);
        int[] tenths = {70, 63, 56, 49, 42, 35, 28, 21, 14, 7, 0};
        int[][] due = {{7, 1}, {63, 10}, {28, 5}, {49, 10}, {21, 5}, {7, 2}, {14, 5}, {21, 10}, {7, 5}, {7, 10}, {0, 1}};
        for (int c = 0; c <= 10; c++) {
            CHECK.due("the table is right", due[c][0] * 10, tenths[c] * due[c][1]);
            strayed(x, 0, c, due[c][0], due[c][1]);
        }
        strayed(x, 1, 3, 0, 1);
        x.bribe(0, 0);
        strayed(x, 0, 5, 1, 1);
        CHECK.due("strays(0, 11)", x.strays(0, 11), -2);
        CHECK.due("strays(0, -1)", x.strays(0, -1), -2);
        CHECK.due("strays(2, 0)", x.strays(2, 0), -2);
        CHECK.due("strays(-1, 0)", x.strays(-1, 0), -2);
        CHECK.due("the fraction stays", x.part(0), 1);
        CHECK.due("status(0)", x.status(0), 5);
        x.round(1);
        x.dog(4, 5, 1, 3);
        // Round 1 begins with 1, whom the old dog bites.
        strayed(x, 1, 5, 5, 1);
        strayed(x, 0, 5, 7, 2);
    }

    /** What sleeps by each seed in the first rounds, told apart by one dog with a tooth among puppies. */
    private static void villages() {
        CHECK.promise(27, "villages");
        DogsPostman none = new DogsPostman();
        CHECK.due("villages of nobody", none.villages(7, 60), -1);
        int[] seeds = {0, 1, 7, 42, 123456, 999999};
        int[][] sleep = {{0, 92, 4}, {70, 126, 1}, {108, 78, 116}, {9, 9, 37}, {61, 60, 64}, {104, 86, 55}};
        for (int k = 0; k < 7; k++) {
            DogsPostman x = new DogsPostman();
            x.man(0, 9);
            for (int i = 0; i < 7; i++) {
                x.dog(i == k ? 0 : 1, 1, 1, 3);
            }
            for (int s = 0; s < seeds.length; s++) {
                int both = sleep[s][0] & sleep[s][1];
                int three = both & sleep[s][2];
                String who = " with dog " + k;
                CHECK.due("villages(" + seeds[s] + ", 0)" + who, x.villages(seeds[s], 0), -1);
                CHECK.due("villages(" + seeds[s] + ", 1)" + who, x.villages(seeds[s], 1), -(sleep[s][0] >> k & 1));
                CHECK.due("villages(" + seeds[s] + ", 2)" + who, x.villages(seeds[s], 2), -(both >> k & 1));
                CHECK.due("villages(" + seeds[s] + ", 3)" + who, x.villages(seeds[s], 3), -(three >> k & 1));
                CHECK.due("villages(" + seeds[s] + ", 60)" + who, x.villages(seeds[s], 60), 0);
            }
            x.bribe(0, k);
            for (int s = 0; s < seeds.length; s++) {
                CHECK.due("asleep now, besides", x.villages(seeds[s], 1), -1);
                CHECK.due("but in the first alone", x.villages(seeds[s], 2), -(sleep[s][1] >> k & 1));
            }
        }
        villagesByRounds();
        wrongVillages();
    }

    /** Who comes first is told by the round. */
    private static void villagesByRounds() {
        DogsPostman x = new DogsPostman();
        x.man(0, 9);
        x.man(0, 9);
        x.man(0, 9);
        x.dog(4, 1, 1, 3);
        // By seed 0 sleep 0, 92, 4, 101, 42, 31: dog 0 is awake but in the fourth and the sixth.
        x.dog(1, 1, 1, 3);
        CHECK.due("villages(0, 1)", x.villages(0, 1), 0);
        x.round(1);
        CHECK.due("villages(0, 1) in round 1", x.villages(0, 1), 0);
        CHECK.due("villages(0, 2) in round 1", x.villages(0, 2), 0);
        CHECK.due("villages(0, 3) in round 1", x.villages(0, 3), 1);
        CHECK.due("villages(0, 4) in round 1", x.villages(0, 4), 1);
        CHECK.due("villages(0, 5) in round 1", x.villages(0, 5), 1);
        CHECK.due("villages(0, 6) in round 1", x.villages(0, 6), 1);
        for (int i = 0; i < 35; i++) {
            x.round(30);
        }
        CHECK.due("count(2)", x.count(2), 999);
        long before = x.digest();
        CHECK.due("beyond 999", x.villages(0, 1), 1);
        CHECK.due("nothing is changed", x.digest(), before);
    }

    private static void wrongVillages() {
        DogsPostman x = new DogsPostman();
        x.man(0, 9);
        x.man(0, 9);
        x.dog(2, 1, 1, 0);
        x.round(1);
        CHECK.due("holes that were there count", x.villages(7, 0), 1);
        CHECK.due("villages(-1, 0)", x.villages(-1, 0), -2);
        CHECK.due("villages(1000000, 0)", x.villages(1000000, 0), -2);
        CHECK.due("villages(0, -1)", x.villages(0, -1), -2);
        CHECK.due("villages(0, 61)", x.villages(0, 61), -2);
        CHECK.due("status(0)", x.status(0), 4);
        CHECK.due("nothing is changed", x.count(2), 1);
        CHECK.due("no holes more", x.of(1, 2), 2);
    }

    public static void main(String[] args) {
        note();
        is();
        send();
        two();
        strays();
        villages();
        CHECK.end();
    }
}
