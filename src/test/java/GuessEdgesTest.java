/** Edges of promises 21 to 27: note, forget, is, send, two, strays, villages. */
public final class GuessEdgesTest {
    private static final Edges E = new Edges("GuessEdgesTest");

    private static final String BEYOND = "(Nothing is changed by these; ROUNDS go beyond 999 in them.)";
    /** Seven mastiffs of all weight, who bite the one CANDIDATE: holes 70 wide a ROUND. */
    private static final String WIDEST = "man(0, 30); " + "dog(2, 5, 1, 3); ".repeat(7) + "\n";

    private static void note() {
        String sentence = "a DOG, awake, would BITE (1) one in BOOTS b (0 .. 9) who is its FAVOURITE (1) or not (0), or would not (0)";
        E.edge(21, "NOTES 0 .. 5, as they come", "the first, the last, one more", "dog(0, 1, 1, 0)\n" + """
            note(0, 0, 0, 0) = 1; note(0, 1, 9, 1) = 2; note(0, 0, 0, 0) = 3; note(0, 0, 0, 0) = 4; note(0, 0, 0, 0) = 5
            note(0, 0, 0, 0) = 6; note(0, 0, 0, 0) = FULL; note(0, 1, 9, 1) = FULL; count(4) = 6
            """);
        E.edge(21, "A NOTE: how many there are. BAD; FULL: 6.", "a place is free again behind forget",
            "dog(0, 1, 1, 0); " + "note(0, 0, 0, 0); ".repeat(6) + "note(0, 0, 0, 0) = FULL; forget() = 6; note(0, 0, 0, 0) = 1");
        E.edge(21, "A NOTE: how many there are. BAD; FULL: 6.", "one refused takes no place",
            "dog(0, 1, 1, 0); note(0, 2, 0, 0) = BAD; note(0, 0, 0, 0) = 1; note(0, 0, 10, 0) = BAD; note(0, 0, 0, 0) = 2");
        E.edge(21, "the first of: BAD -2 a number is not as told; NO -3 as told; FULL -4", "BAD ahead of FULL",
            "dog(0, 1, 1, 0); " + "note(0, 0, 0, 0); ".repeat(6) + """
            note(1, 0, 0, 0) = BAD; note(0, 2, 0, 0) = BAD; note(0, 0, 10, 0) = BAD; note(0, 0, 0, 2) = BAD
            note(-1, 0, 0, 0) = BAD; note(0, -1, 0, 0) = BAD; note(0, 0, -1, 0) = BAD; note(0, 0, 0, -1) = BAD
            note(0, 1, 9, 1) = FULL
            """);
        E.edge(21, sentence, "a DOG: none there, the first, the last of seven, beside them, far away",
            "note(0, 0, 0, 0) = BAD\n" + Edges.SEVEN + """
            note(0, 0, 0, 0) = 1; note(6, 0, 0, 0) = 2; note(-1, 0, 0, 0) = BAD; note(7, 0, 0, 0) = BAD
            note(MIN, 0, 0, 0) = BAD; note(MAX, 0, 0, 0) = BAD
            """);
        E.edge(21, sentence, "FAVOURITE, BOOTS, BITING or not: the least, the greatest",
            "dog(0, 1, 1, 0); note(0, 0, 0, 0) = 1; note(0, 1, 0, 0) = 2; note(0, 0, 9, 0) = 3; note(0, 0, 0, 1) = 4");
        E.edge(21, sentence, "FAVOURITE, BOOTS, BITING or not: just below, just above, far away", "dog(0, 1, 1, 0)\n" + """
            note(0, -1, 0, 0) = BAD; note(0, 2, 0, 0) = BAD; note(0, MIN, 0, 0) = BAD; note(0, MAX, 0, 0) = BAD
            note(0, 0, -1, 0) = BAD; note(0, 0, 10, 0) = BAD; note(0, 0, MIN, 0) = BAD; note(0, 0, MAX, 0) = BAD
            note(0, 0, 0, -1) = BAD; note(0, 0, 0, 2) = BAD; note(0, 0, 0, MIN) = BAD; note(0, 0, 0, MAX) = BAD; count(4) = 0
            """);
        E.edge(21, sentence, "of one that is ASLEEP now",
            "man(0, 9); dog(0, 1, 1, 3); bribe(0, 0); note(0, 0, 0, 1) = 1; is(0) = 63; note(0, 0, 5, 0) = 2; is(0) = 32");
        E.edge(22, "No NOTES: how many there were", "none yet, one, all six, none again", "forget() = 0; dog(0, 1, 1, 0); "
            + "note(0, 0, 0, 0); forget() = 1; count(4) = 0; " + "note(0, 0, 0, 0); ".repeat(6)
            + "forget() = 6; forget() = 0; count(4) = 0; is(0) = 63; count(1) = 1");
    }

    private static void is() {
        String sentence = "IS: KINDS (bits) by which all NOTES of it are so";
        E.edge(23, sentence, "no NOTES: all", "dog(0, 1, 1, 0); is(0) = 63");
        E.edge(23, sentence, "NOTES that no KIND has: none", "dog(0, 1, 1, 0); note(0, 1, 9, 1); is(0) = 0");
        E.edge(23, sentence, "NOTES that speak against one another: none",
            "dog(0, 1, 1, 0); note(0, 0, 0, 1); is(0) = 63; note(0, 0, 0, 0); is(0) = 0");
        E.edge(23, sentence, "the sixth NOTE counts", "dog(0, 1, 1, 0); " + "note(0, 0, 0, 1); ".repeat(5)
            + "is(0) = 63; note(0, 0, 9, 1); is(0) = 20");
        E.edge(23, sentence, "NOTES of another do not", Edges.SEVEN + """
            note(0, 0, 9, 1); note(6, 0, 9, 0); is(0) = 20; is(6) = 43; is(1) = 63; is(5) = 63
            """);
        E.edge(23, sentence, "what KIND it is does not", "dog(3, 1, 1, 0); note(0, 0, 9, 1); is(0) = 20");
        // Not its favourite: boots 4, 5, 7, 8, 9; its favourite.
        int[][] due = {{0, 0, 63}, {0, 4, 63}, {0, 5, 31}, {0, 7, 31}, {0, 8, 20}, {0, 9, 20},
            {1, 0, 40}, {1, 4, 40}, {1, 5, 8}, {1, 7, 8}, {1, 8, 0}, {1, 9, 0}};
        for (int[] d : due) {
            String told = "note(0, " + d[0] + ", " + d[1];
            E.edge(23, sentence, "boots beside 5 and 8: " + told, "dog(0, 1, 1, 0); " + told + ", 1); is(0) = " + d[2]
                + "; forget(); " + told + ", 0); is(0) = " + (63 - d[2]));
        }
        E.edge(23, "`int is(int k)`: IS, as bits. BAD.", "k: none there, the first, the last, beside them, far away",
            "is(0) = BAD\n" + Edges.SEVEN + "is(0) = 63; is(6) = 63; is(-1) = BAD; is(7) = BAD; is(MIN) = BAD; is(MAX) = BAD");
    }

    private static void send() {
        String sentence = "the greater part of these KINDS is least; of like ones the least; none: no KIND";
        E.edge(24, sentence, "no KIND", "dog(0, 1, 1, 0); note(0, 1, 9, 1); send(0) = NONE");
        E.edge(24, sentence, "one KIND: all are alike", "dog(0, 1, 1, 0); note(0, 1, 5, 1); is(0) = 8; send(0) = 0");
        E.edge(24, sentence, "two that no one parts", "dog(0, 1, 1, 0); note(0, 0, 9, 1); is(0) = 20; send(0) = 0");
        E.edge(24, sentence, "two that BOOTS 5 part first", "dog(0, 1, 1, 0); note(0, 1, 0, 1); is(0) = 40; send(0) = 5");
        E.edge(24, sentence, "all six", "dog(0, 1, 1, 0); send(0) = 8");
        E.edge(24, sentence, "only a FAVOURITE parts them, BOOTS 0 first",
            "dog(0, 1, 1, 0); note(0, 0, 9, 0); note(0, 0, 7, 1); is(0) = 11; send(0) = 10");
        E.edge(24, sentence, "two by two by a FAVOURITE, three by one by BOOTS 5",
            "dog(0, 1, 1, 0); note(0, 0, 9, 0); is(0) = 43; send(0) = 10");
        E.edge(24, sentence, "five: three by two as at BOOTS 8",
            "dog(0, 1, 1, 0); note(0, 0, 5, 1); is(0) = 31; send(0) = 8");
        E.edge(24, "`int send(int k)`: SEND. NONE. BAD.", "k: none there, the first, the last, beside them, far away",
            "send(0) = BAD\n" + Edges.SEVEN
            + "send(0) = 8; send(6) = 8; send(-1) = BAD; send(7) = BAD; send(MIN) = BAD; send(MAX) = BAD");
        E.edge(24, sentence, "NOTES of another do not count", Edges.SEVEN + "note(5, 1, 9, 1); send(5) = NONE; send(6) = 8; send(0) = 8");
    }

    private static void two() {
        String rest = "pairs 8 i and j (7: none) that rest (neither would get more by doing otherwise): how many; the k-th (rising)";
        String wrong = "-5: not so many. BAD: -10: alike, k below -1, too.";
        E.edge(25, rest, "no DOGS: none and none", "man(0, 0); man(0, 0); two(0, 1, -1) = 1; two(0, 1, 0) = 63; two(0, 1, 1) = -5");
        E.edge(25, rest, "DOG 6, the last; of the others none is worth it",
            "man(0, 0); man(0, 0); " + "dog(1, 5, 1, 3); ".repeat(6) + """
            dog(0, 2, 1, 3); two(0, 1, -1) = 2; two(0, 1, 0) = 55; two(0, 1, 1) = 62; two(0, 1, 2) = -5
            """);
        E.edge(25, rest, "1 wide: to bribe it is as good as not to",
            "man(0, 0); man(0, 0); dog(0, 1, 1, 3); two(0, 1, -1) = 3; two(0, 1, 0) = 7; two(0, 1, 1) = 56; two(0, 1, 2) = 63");
        E.edge(25, rest, "2 wide: it is better", "man(0, 0); man(0, 0); dog(0, 2, 1, 3); two(0, 1, -1) = 2; two(0, 1, 0) = 7; two(0, 1, 1) = 56");
        E.edge(25, rest, "0 wide: it is worse", "man(0, 0); man(0, 0); dog(1, 5, 1, 3); two(0, 1, -1) = 1; two(0, 1, 0) = 63");
        E.edge(25, "one DOG that is not ASLEEP (it may be the same one), or none (whatever HAM)", "no HAM, and the most HUNGER",
            "man(0, 0); man(9, 0); dog(2, 5, 9, 1); two(0, 1, -1) = 1; two(0, 1, 0) = 7; two(1, 0, 0) = 56; of(0, 1) = 0");
        E.edge(25, "one DOG that is not ASLEEP (it may be the same one), or none (whatever HAM)", "all DOGS are ASLEEP", """
            man(0, 9); man(0, 9); dog(2, 5, 1, 3); dog(2, 5, 1, 3); two(0, 1, -1) = 2; two(0, 1, 0) = 1; two(0, 1, 1) = 8
            bribe(0, 0); two(0, 1, -1) = 2; two(0, 1, 0) = 15; two(0, 1, 1) = 57; bribe(1, 1)
            two(0, 1, -1) = 1; two(0, 1, 0) = 63; two(0, 1, 1) = -5
            """);
        E.edge(25, "`int two(int a, int b, int k)`: TWO: how many (k = NONE), the k-th.", "k: -1, the first, the last, one more, far away",
            "man(0, 0); man(0, 0); dog(0, 2, 1, 3); two(0, 1, NONE) = 2; two(0, 1, 0) = 7; two(0, 1, 1) = 56\n"
            + "two(0, 1, 2) = -5; two(0, 1, 63) = -5; two(0, 1, MAX) = -5; status(0) = 0; status(1) = 0; status(2) = 0");
        E.edge(25, wrong, "k just below, far below",
            "man(0, 0); man(0, 0); two(0, 1, -2) = -10 BAD; two(0, 1, -5) = -10 BAD; two(0, 1, MIN) = -10 BAD");
        E.edge(25, wrong, "alike", "man(0, 0); two(0, 0, 0) = -10 BAD; two(0, 0, -1) = -10 BAD; man(0, 0); two(1, 1, -1) = -10 BAD");
        E.edge(25, wrong, "a, b: nobody there, one there, beside them, far away", """
            two(0, 1, -1) = -10 BAD; man(0, 0); two(0, 1, -1) = -10 BAD; two(1, 0, -1) = -10 BAD; man(0, 0); two(0, 1, -1) = 1
            two(-1, 0, -1) = -10 BAD; two(0, -1, -1) = -10 BAD; two(2, 0, -1) = -10 BAD; two(0, 2, -1) = -10 BAD
            two(MIN, 0, -1) = -10 BAD; two(0, MAX, -1) = -10 BAD; two(MAX, MAX, -1) = -10 BAD
            """);
        E.edge(25, wrong, "a, b: the first and the last of four", Edges.FOUR
            + "two(0, 3, -1) = 1; two(3, 0, 0) = 63; two(4, 0, -1) = -10 BAD; two(0, 4, -1) = -10 BAD");
        E.edge(25, BEYOND, "at 999", "man(0, 0); man(0, 0); dog(4, 1, 1, 3); two(0, 1, -1) = 1; two(0, 1, 0) = 7\n"
            + "rounds 999; two(0, 1, -1) = 1; two(0, 1, 0) = 56");
    }

    private static void strays() {
        String odds = "by c of 10 (0 .. 10) each DOG that is not ASLEEP, apart, sleeps in this ROUND";
        String terms = "lowest terms, below above 0";
        E.edge(26, odds, "none sleeps, all sleep",
            "man(0, 0); dog(0, 3, 1, 3); strays(0, 0) = 1; part(0) = 3; part(1) = 1; strays(0, 10) = 1; part(0) = 0; part(1) = 1");
        E.edge(26, odds, "one of 10, nine of 10",
            "man(0, 0); dog(0, 1, 1, 3); strays(0, 1) = 1; part(0) = 9; part(1) = 10; strays(0, 9) = 1; part(0) = 1; part(1) = 10");
        E.edge(26, odds, "just below, just above, far away: THE FRACTION stays", """
            man(0, 0); dog(0, 1, 1, 3); strays(0, 3) = 1; strays(0, -1) = BAD; strays(0, 11) = BAD; strays(0, MIN) = BAD
            strays(0, MAX) = BAD; part(0) = 7; part(1) = 10
            """);
        E.edge(26, terms, "by 10, 5, 2, 1", """
            man(0, 0); dog(0, 1, 1, 3); strays(0, 3); part(0) = 7; part(1) = 10; strays(0, 2); part(0) = 4; part(1) = 5
            strays(0, 5); part(0) = 1; part(1) = 2; strays(0, 0); part(0) = 1; part(1) = 1
            """);
        E.edge(26, terms, "the most there can be", WIDEST + """
            strays(0, 0) = 1; part(0) = 70; part(1) = 1; strays(0, 1) = 1; part(0) = 63; part(1) = 1
            strays(0, 9) = 1; part(0) = 7; part(1) = 1; strays(0, 10) = 1; part(0) = 0; part(1) = 1
            """);
        E.edge(26, terms, "nothing: 0 by 1, whatever it was", """
            man(0, 0); man(9, 0); dog(0, 1, 1, 3); strays(0, 3) = 1; strays(1, 3) = 1; part(0) = 0; part(1) = 1
            village(); man(0, 0); strays(0, 0) = 1; part(0) = 0; part(1) = 1; strays(0, 7) = 1; part(0) = 0; part(1) = 1
            dog(1, 5, 1, 3); strays(0, 7) = 1; part(0) = 0; part(1) = 1
            """);
        E.edge(26, odds, "who is ASLEEP already has no odds", """
            man(0, 9); dog(0, 1, 1, 3); dog(0, 2, 1, 3); bribe(0, 1); strays(0, 5) = 1; part(0) = 1; part(1) = 2
            bribe(0, 0); strays(0, 5) = 1; part(0) = 0; part(1) = 1; count(3) = 2
            """);
        E.edge(26, "`int strays(int a, int c)`: STRAYS are THE FRACTION: 1. BAD.", "a: nobody there, the first, the last, beside them",
            "strays(0, 0) = BAD; part(0) = 0; part(1) = 1\n" + Edges.FOUR + """
            strays(0, 0) = 1; strays(3, 0) = 1; strays(-1, 0) = BAD; strays(4, 0) = BAD; strays(MIN, 0) = BAD; strays(MAX, 0) = BAD
            """);
        E.edge(26, BEYOND, "at 999", """
            man(0, 0); man(0, 0); rounds 999; dog(4, 1, 1, 3); strays(0, 0) = 1; part(0) = 0; strays(1, 5) = 1; part(0) = 1
            part(1) = 1
            """);
    }

    /** One CANDIDATE, six puppies and one plain dog at this place: POSTMAN is 0 if it was awake once. */
    private static String oneTooth(int place) {
        return "village(); man(0, 9); " + "dog(1, 1, 1, 3); ".repeat(place) + "dog(0, 1, 1, 3); "
            + "dog(1, 1, 1, 3); ".repeat(6 - place) + "\n";
    }

    private static void villages() {
        String seed = "VILLAGES by a SEED (0 .. 999999), n (0 .. 60) ROUNDS from now";
        // By these seeds these dogs (bits) sleep in the first round: none, all, and 3, 5, 6.
        int[][] sleep = {{0, 0}, {71, 127}, {999999, 104}};
        for (int[] s : sleep) {
            StringBuilder rows = new StringBuilder();
            for (int k = 0; k < 7; k++) {
                rows.append(oneTooth(k)).append("villages(").append(s[0]).append(", 1) = ")
                    .append((s[1] >> k & 1) == 1 ? "NONE\n" : "0\n");
            }
            E.edge(27, seed, "SEED " + s[0] + ", DOGS 0 to 6", rows.toString());
        }
        E.edge(27, seed, "a SEED just below, just above, far away", """
            man(0, 0); villages(-1, 0) = BAD; villages(1000000, 0) = BAD; villages(MIN, 0) = BAD; villages(MAX, 0) = BAD
            """);
        E.edge(27, seed, "n 0: who is POSTMAN now", """
            villages(0, 0) = NONE; man(0, 0); villages(0, 0) = NONE; dog(0, 1, 1, 3); villages(0, 0) = NONE; round(1)
            villages(0, 0) = 0; villages(999999, 0) = 0
            """);
        // By seed 0 dog 6 is awake in 33 of 59, 34 of 60 rounds, dog 1 in 33 of 59, 33 of 60.
        E.edge(27, seed, "n 59, 60", "man(0, 0); man(0, 0); dog(1, 1, 1, 3); dog(0, 1, 1, 0); " + "dog(1, 1, 1, 3); ".repeat(4)
            + "dog(0, 1, 1, 1); villages(0, 59) = 0; villages(0, 60) = 1; count(2) = 0");
        E.edge(27, seed, "n just below, just above, far away",
            "man(0, 0); villages(0, -1) = BAD; villages(0, 61) = BAD; villages(0, MIN) = BAD; villages(0, MAX) = BAD");
        E.edge(27, "are the DOGS (bits) that sleep in it, besides: who is POSTMAN then (none)", "who is ASLEEP now, in the first alone",
            oneTooth(6) + "villages(0, 1) = 0; bribe(0, 6); villages(0, 1) = NONE; villages(0, 2) = NONE; villages(0, 3) = 0\n"
            + oneTooth(0) + "bribe(0, 0); villages(0, 1) = NONE; villages(0, 2) = 0; count(3) = 1");
        E.edge(27, "are the DOGS (bits) that sleep in it, besides: who is POSTMAN then (none)", "ASLEEP now and by the SEED, too",
            oneTooth(6) + "villages(71, 1) = NONE; bribe(0, 6); villages(71, 1) = NONE\n"
            + oneTooth(0) + "bribe(0, 0); villages(71, 1) = NONE");
        E.edge(27, "are the DOGS (bits) that sleep in it, besides: who is POSTMAN then (none)", "nobody is there, nobody is bitten",
            "villages(0, 60) = NONE; dog(0, 1, 1, 3); villages(0, 60) = NONE; man(9, 0); villages(0, 60) = NONE");
        E.edge(27, BEYOND, "from 998, from 999", """
            man(0, 0); man(0, 0); rounds 998; dog(4, 1, 1, 3); villages(0, 1) = 0; villages(0, 2) = 0; round(1)
            undo(); round(1); count(2) = 999; villages(0, 0) = 0; villages(0, 1) = 0; keep; villages(999999, 60); same
            """);
        E.edge(27, BEYOND, "the first goes round beyond 999 as ever", """
            man(0, 0); man(0, 0); rounds 999; dog(4, 1, 1, 3); villages(0, 1) = 1; villages(0, 2) = 0; count(2) = 999
            """);
    }

    public static void main(String[] args) {
        note();
        is();
        send();
        two();
        strays();
        villages();
        E.end(21, 27);
    }
}
