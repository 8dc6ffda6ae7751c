/** Edges of promises 8 to 12: bribe, round, undo, of, about. */
public final class RoundsEdgesTest {
    private static final Edges E = new Edges("RoundsEdgesTest");

    /** Seven mastiffs of all weight, who bite the one CANDIDATE: holes 70 wide a ROUND. */
    private static final String WIDEST = "man(0, 30); " + "dog(2, 5, 1, 3); ".repeat(7) + "\n";

    private static void bribe() {
        String two = "man(0, 9); man(0, 5); dog(0, 1, 4, 3); dog(0, 1, 5, 3)\n";
        E.edge(8, "BRIBE: HAM that is left. BAD", "a CANDIDATE: the first, the last, beside them, far away", two
            + "bribe(-1, 0) = BAD; bribe(2, 0) = BAD; bribe(3, 0) = BAD; bribe(MIN, 0) = BAD; bribe(MAX, 0) = BAD\n"
            + "bribe(0, 0) = 5; bribe(1, 1) = 0");
        E.edge(8, "BRIBE: HAM that is left. BAD", "a DOG: the first, the last, beside them, far away", two
            + "bribe(0, -1) = BAD; bribe(0, 2) = BAD; bribe(0, 6) = BAD; bribe(0, MIN) = BAD; bribe(0, MAX) = BAD\n"
            + "bribe(0, 1) = 4; bribe(1, 0) = 1");
        E.edge(8, "BRIBE: HAM that is left. BAD", "nobody there yet", """
            bribe(0, 0) = BAD; man(0, 9); bribe(0, 0) = BAD; village(); dog(0, 1, 1, 0); bribe(0, 0) = BAD
            """);
        E.edge(8, "BRIBE: HAM that is left. BAD", "the last of all four, the last of all seven",
            Edges.FOUR + Edges.SEVEN + "bribe(4, 6) = BAD; bribe(3, 7) = BAD; bribe(3, 6) = 29; about(6, 4) = 1; count(3) = 1");
        E.edge(8, "HAM of the CANDIDATE is less by its HUNGER", "all of it, to 0", """
            man(0, 9); man(0, 9); dog(0, 1, 9, 3); bribe(0, 0) = 0; of(0, 1) = 0; of(1, 1) = 9; about(0, 4) = 1
            """);
        E.edge(8, "HAM of the CANDIDATE is less by its HUNGER", "the least and the greatest HUNGER of the most HAM", """
            man(0, 30); dog(0, 1, 1, 3); dog(0, 1, 9, 3); bribe(0, 0) = 29; bribe(0, 1) = 20
            """);
        E.edge(8, "NO: the DOG is ASLEEP, there is not so much", "1 too little",
            "man(0, 8); dog(0, 1, 9, 3); bribe(0, 0) = NO; of(0, 1) = 8; about(0, 4) = 0; count(5) = 0");
        E.edge(8, "NO: the DOG is ASLEEP, there is not so much", "none at all",
            "man(0, 0); dog(0, 1, 1, 3); bribe(0, 0) = NO; of(0, 1) = 0");
        E.edge(8, "NO: the DOG is ASLEEP, there is not so much", "as much as a bribe left, and 1 less", """
            man(0, 9); dog(0, 1, 4, 3); dog(0, 1, 6, 3); dog(0, 1, 5, 3)
            bribe(0, 0) = 5; bribe(0, 1) = NO; bribe(0, 2) = 0; bribe(0, 1) = NO
            """);
        E.edge(8, "NO: the DOG is ASLEEP, there is not so much", "ASLEEP by its own, by another's bribe", two
            + "bribe(0, 0) = 5; bribe(0, 0) = NO; bribe(1, 0) = NO; of(0, 1) = 5; of(1, 1) = 5; count(5) = 1");
        E.edge(8, "NO: the DOG is ASLEEP, there is not so much", "both are so: one NO",
            "man(0, 1); dog(0, 1, 1, 3); bribe(0, 0) = 0; bribe(0, 0) = NO; status(1) = 1");
        E.edge(8, "NO: the DOG is ASLEEP, there is not so much", "awake again behind a ROUND, and behind undo", """
            man(0, 4); dog(0, 1, 2, 3); bribe(0, 0) = 2; bribe(0, 0) = NO; undo() = 0; bribe(0, 0) = 2
            round(1); bribe(0, 0) = 0; round(1); bribe(0, 0) = NO
            """);
        E.edge(8, "the first of: BAD -2 a number is not as told; NO -3 as told; FULL -4", "BAD ahead of NO",
            "man(0, 1); dog(0, 1, 1, 3); bribe(0, 0) = 0; bribe(1, 0) = BAD; bribe(-1, 0) = BAD; bribe(0, 1) = BAD");
        E.edge(8, "a DOG that is not ASLEEP is ASLEEP", "all seven, the last place too", "man(0, 30)\n" + Edges.SEVEN
            + "bribe(0, 6) = 29; bribe(0, 0) = 28; bribe(0, 5) = 27; bribe(0, 1) = 26; bribe(0, 4) = 25\n"
            + "bribe(0, 2) = 24; bribe(0, 3) = 23; count(3) = 7; bribe(0, 6) = NO");
    }

    private static void round() {
        E.edge(9, "n ROUNDS (1 .. 30", "the least, the greatest",
            "man(0, 0); dog(0, 1, 1, 3); round(1) = 0; count(2) = 1; of(0, 2) = 1; round(30) = 0; count(2) = 31; of(0, 2) = 31");
        E.edge(9, "n ROUNDS (1 .. 30", "just below, just above, far away", """
            man(0, 9); dog(0, 1, 1, 3); bribe(0, 0)
            round(0) = BAD; round(31) = BAD; round(-1) = BAD; round(MIN) = BAD; round(MAX) = BAD
            count(2) = 0; count(3) = 1; count(5) = 1; of(0, 2) = 0
            """);
        E.edge(9, "together one that may be undone", "30 of them",
            "man(0, 0); dog(0, 1, 1, 3); round(30); count(5) = 1; undo() = 0; of(0, 2) = 0; undo() = NO");
        E.edge(9, "also if none goes by; at 999 none goes by", "at 998, 999, one too many", """
            man(0, 0); dog(0, 1, 1, 3); rounds 997
            round(2) = 0; count(2) = 999; of(0, 2) = 999; undo() = 997; of(0, 2) = 997
            round(3) = 0; count(2) = 999; of(0, 2) = 999; undo() = 997
            round(1) = 0; count(2) = 998; round(30) = 0; count(2) = 999; of(0, 2) = 999
            """);
        E.edge(9, "also if none goes by; at 999 none goes by", "at 969: all 30 go by, the last of them to 999",
            "man(0, 0); dog(0, 1, 1, 3); rounds 969; round(30) = 0; count(2) = 999; of(0, 2) = 999");
        E.edge(9, "also if none goes by; at 999 none goes by", "at 970: 29 go by",
            "man(0, 0); dog(0, 1, 1, 3); rounds 970; round(30) = 0; count(2) = 999; of(0, 2) = 999; undo() = 970");
        E.edge(9, "also if none goes by; at 999 none goes by", "at 999: holes stay, it may be undone", """
            man(0, 9); dog(0, 1, 1, 3); rounds 999
            dog(1, 1, 1, 3); count(5) = 0; round(1) = 0; count(2) = 999; count(5) = 1; of(0, 2) = 999
            round(30) = 0; count(2) = 999; count(5) = 2; undo() = 999; undo() = 999; undo() = NO; of(0, 2) = 999
            """);
        E.edge(9, "also if none goes by; at 999 none goes by", "at 999: who is ASLEEP stays so", """
            man(0, 9); dog(0, 1, 1, 3); rounds 999; bribe(0, 0) = 8; round(1) = 0; count(3) = 1; about(0, 4) = 1
            """);
        E.edge(9, "ROUNDS have numbers, 0 at first (999 at most)", "the most HOLES there can be",
            WIDEST + "rounds 999; of(0, 2) = 69930; then(0, 30) = 72030; bitten(0, 1) = 70");
        E.edge(9, "who is POSTMAN (NONE)", "nobody there, nobody bitten, one bitten, all asleep", """
            round(1) = NONE; man(9, 9); dog(0, 1, 1, 3); round(30) = NONE; man(0, 9); bribe(0, 0); round(1) = NONE
            round(1) = 1
            """);
        E.edge(9, "who is POSTMAN (NONE)", "no DOGS", "man(0, 0); round(30) = NONE; of(0, 2) = 0");
        E.edge(9, "of those whose HOLES are 1 or more that with the least", "0, 1, 2 wide", """
            man(9, 0); man(0, 0); man(7, 0); dog(0, 1, 1, 2); dog(0, 2, 1, 1); round(1) = 1
            of(0, 2) = 0; of(1, 2) = 1; of(2, 2) = 2
            """);
        E.edge(9, "of like ones the first (an unbitten one is nobody)", "all four alike",
            Edges.FOUR + "dog(3, 1, 1, 0); round(4) = 0; of(0, 2) = 3; of(3, 2) = 3");
        E.edge(9, "of like ones the first (an unbitten one is nobody)", "the last two alike, the first unbitten", """
            man(9, 0); man(9, 0); man(0, 0); man(0, 0); dog(0, 1, 1, 0); round(1) = 2
            """);
        E.edge(9, "of like ones the first (an unbitten one is nobody)", "a puppy's holes are none", """
            man(0, 0); dog(1, 5, 1, 3); round(30) = NONE; of(0, 2) = 0; bitten(0, 0) = 1
            """);
        E.edge(9, "Then no DOG is ASLEEP", "in the second of two it is awake", """
            man(0, 9); dog(0, 1, 1, 3); bribe(0, 0); round(1) = NONE; of(0, 2) = 0; count(3) = 0
            bribe(0, 0); round(2) = 0; of(0, 2) = 1; about(0, 4) = 0
            """);
    }

    /** An old dog bites the first it comes to; a stray all of four but the last. */
    private static void order() {
        String sentence = "the one of number r (by how many there are, left over) first, then rising, round to 0";
        E.edge(9, sentence, "one CANDIDATE is always the first",
            "man(0, 0); dog(4, 1, 1, 3); round(1); of(0, 2) = 2; round(1); of(0, 2) = 4; round(30); of(0, 2) = 64");
        E.edge(9, sentence, "two, round the end", """
            man(0, 0); man(0, 0); dog(4, 1, 1, 3)
            round(1); of(0, 2) = 2; of(1, 2) = 0; round(1); of(0, 2) = 2; of(1, 2) = 2; round(1); of(0, 2) = 4; of(1, 2) = 2
            """);
        E.edge(9, sentence, "three, round the end", """
            man(0, 0); man(0, 0); man(0, 0); dog(4, 1, 1, 3)
            round(1); of(0, 2) = 2; round(1); of(1, 2) = 2; round(1); of(2, 2) = 2; of(0, 2) = 2
            round(1); of(0, 2) = 4; of(1, 2) = 2; of(2, 2) = 2
            """);
        E.edge(9, sentence, "four: the last in the row is not bitten, round the end", Edges.FOUR + """
            dog(3, 1, 1, 0)
            bitten(0, 1) = 1; bitten(1, 1) = 1; bitten(2, 1) = 1; bitten(3, 1) = 0; round(1)
            bitten(0, 1) = 0; bitten(1, 1) = 1; bitten(2, 1) = 1; bitten(3, 1) = 1; round(1)
            bitten(0, 1) = 1; bitten(1, 1) = 0; bitten(2, 1) = 1; bitten(3, 1) = 1; round(1)
            bitten(0, 1) = 1; bitten(1, 1) = 1; bitten(2, 1) = 0; bitten(3, 1) = 1; round(1)
            bitten(0, 1) = 1; bitten(1, 1) = 1; bitten(2, 1) = 1; bitten(3, 1) = 0
            """);
        E.edge(9, sentence, "one that comes later counts from its coming on", """
            man(0, 0); man(0, 0); dog(4, 1, 1, 3); round(2); of(0, 2) = 2; of(1, 2) = 2
            man(0, 0) = 2; round(1); of(2, 2) = 2; round(1); of(0, 2) = 4
            """);
        E.edge(9, sentence, "in ROUND 998, the last that goes by", """
            man(0, 0); man(0, 0); man(0, 0); rounds 998; dog(4, 1, 1, 3); round(30) = 2; of(2, 2) = 2; of(0, 2) = 0
            """);
        E.edge(9, "it BITES those it would as long as it has bites", "one more than it has, one less", """
            man(0, 0); man(0, 0); man(9, 0); man(0, 0); dog(0, 1, 1, 2)
            bitten(0, 1) = 1; bitten(1, 1) = 1; bitten(2, 1) = 0; bitten(3, 1) = 0
            round(1); bitten(0, 1) = 0; bitten(1, 1) = 1; bitten(3, 1) = 1
            """);
        E.edge(9, "it BITES those it would as long as it has bites", "those it would not bite cost no bite", """
            man(9, 0); man(0, 0); man(9, 0); man(0, 0); dog(0, 1, 1, 0)
            bitten(0, 1) = 0; bitten(1, 1) = 1; bitten(2, 1) = 0; bitten(3, 1) = 1
            """);
    }

    private static void undo() {
        String eight = "(8 at most; behind a CANDIDATE, a DOG that comes none may be)";
        E.edge(10, "UNDO: the ROUND then. NO: none may be.", "nothing there yet", "undo() = NO; count(2) = 0");
        E.edge(10, "UNDO: the ROUND then. NO: none may be.", "one, and no more",
            "round(2); undo() = 0; undo() = NO; undo() = NO; count(2) = 0");
        E.edge(10, eight, "all eight", "round(1); ".repeat(8) + """
            count(5) = 8; undo() = 7; undo() = 6; undo() = 5; undo() = 4; undo() = 3; undo() = 2; undo() = 1; undo() = 0
            undo() = NO; count(5) = 0
            """);
        E.edge(10, eight, "a ninth pushes the first out", "round(1); ".repeat(9) + """
            count(5) = 8; undo() = 8; undo() = 7; undo() = 6; undo() = 5; undo() = 4; undo() = 3; undo() = 2; undo() = 1
            undo() = NO; count(2) = 1
            """);
        E.edge(10, eight, "twenty, then five back, then five more: the row goes round", "round(1); ".repeat(20) + """
            undo() = 19; undo() = 18; undo() = 17; undo() = 16; undo() = 15; count(5) = 3
            round(2); round(2); round(2); round(2); round(2); count(5) = 8; round(2); count(5) = 8; count(2) = 27
            undo() = 25; undo() = 23; undo() = 21; undo() = 19; undo() = 17; undo() = 15; undo() = 14; undo() = 13
            undo() = NO; count(2) = 13
            """);
        E.edge(10, eight, "bribes and rounds are alike", """
            man(0, 30); dog(0, 1, 1, 3); bribe(0, 0) = 29; round(1); bribe(0, 0) = 28; round(1); bribe(0, 0) = 27
            round(1); bribe(0, 0) = 26; round(1); bribe(0, 0) = 25; round(1); count(5) = 8
            undo() = 4; about(0, 4) = 1; undo() = 4; about(0, 4) = 0; of(0, 1) = 26; undo() = 3; undo() = 3; undo() = 2
            undo() = 2; undo() = 1; undo() = 1; of(0, 1) = 29; about(0, 4) = 0; undo() = NO; of(0, 1) = 29
            """);
        E.edge(10, eight, "a refused round or bribe pushes none out", "man(0, 0); dog(0, 1, 1, 3)\n"
            + "round(1); ".repeat(8) + """
            round(0) = BAD; round(31) = BAD; bribe(1, 0) = BAD; bribe(0, 0) = NO; count(5) = 8
            undo() = 7; undo() = 6; undo() = 5; undo() = 4; undo() = 3; undo() = 2; undo() = 1; undo() = 0; undo() = NO
            """);
        E.edge(10, eight, "a CANDIDATE came", "round(1); round(1); man(0, 0) = 0; count(5) = 0; undo() = NO; count(2) = 2");
        E.edge(10, eight, "a DOG came", "round(1); round(1); dog(0, 1, 1, 0) = 0; count(5) = 0; undo() = NO; count(2) = 2");
        E.edge(10, eight, "what comes behind them may be undone again", """
            round(1); man(0, 0); round(1); undo() = 1; undo() = NO; round(1); dog(0, 1, 1, 3); round(1); undo() = 2; undo() = NO
            """);
        E.edge(10, eight, "a CANDIDATE, a DOG that is refused", Edges.FOUR + Edges.SEVEN + """
            round(1); man(10, 0) = BAD; man(0, 0) = FULL; dog(6, 1, 1, 0) = BAD; dog(0, 1, 1, 0) = FULL
            count(5) = 1; undo() = 0
            """);
        E.edge(10, "UNDO: HOLES, HAM, who is ASLEEP, the ROUND", "all of them, for all that are there", Edges.FOUR
            + "dog(3, 1, 1, 0); dog(2, 5, 9, 3)" + "; dog(0, 1, 1, 3)".repeat(5) + """

            round(2); bribe(3, 6) = 29; keep; bribe(0, 1) = 21; round(30); undo() = 2; count(3) = 2; of(0, 1) = 21
            undo() = 2; same; undo() = 2; undo() = 0; of(0, 2) = 0; of(1, 2) = 0; of(2, 2) = 0; of(3, 2) = 0
            of(3, 1) = 30; count(3) = 0; undo() = NO
            """);
        E.edge(10, "as ahead of the last BRIBE, ROUNDS gone", "NOTES, THE TEXT, THE FRACTION, STATUS are not undone", """
            man(0, 9); dog(0, 1, 1, 3); round(1); note(0, 0, 0, 1) = 1; type(97) = 1; strays(0, 3) = 1; man(10, 0) = BAD
            undo() = 0; count(4) = 1; count(6) = 1; part(0) = 7; part(1) = 10; status(0) = 1
            round(1); forget() = 1; undo() = 0; count(4) = 0
            """);
        E.edge(10, "as ahead of the last BRIBE, ROUNDS gone", "what changes no such thing may not be undone, and leaves it", """
            man(0, 9); dog(0, 1, 1, 3); round(1); count(5) = 1; note(0, 0, 0, 1); forget(); type(97); clear()
            strays(0, 3); image(0); count(5) = 1; undo() = 0
            """);
    }

    private static void of() {
        E.edge(11, "BOOTS (0), HAM (1), HOLES (2). BAD", "the first, the last of four, beside them, far away", """
            man(1, 11); man(2, 12); man(3, 13); of(3, 0) = BAD; man(4, 14)
            of(0, 0) = 1; of(0, 1) = 11; of(0, 2) = 0; of(3, 0) = 4; of(3, 1) = 14; of(3, 2) = 0
            of(-1, 0) = BAD; of(4, 0) = BAD; of(MIN, 0) = BAD; of(MAX, 0) = BAD
            """);
        E.edge(11, "BOOTS (0), HAM (1), HOLES (2). BAD", "what: just below, just above, far away",
            "man(1, 11); of(0, -1) = BAD; of(0, 3) = BAD; of(0, MIN) = BAD; of(0, MAX) = BAD");
        E.edge(11, "BOOTS (0), HAM (1), HOLES (2). BAD", "nobody there yet", "of(0, 0) = BAD; of(0, 1) = BAD; of(0, 2) = BAD");
        E.edge(11, "HOLES of each CANDIDATE (0 at first)", "none, the least, the most", WIDEST
            + "of(0, 2) = 0; round(1); of(0, 2) = 70; rounds 999; of(0, 2) = 69930; round(30); of(0, 2) = 69930");
    }

    private static void about() {
        String sentence = "Of a DOG: KIND (0), WEIGHT (1), HUNGER (2), FAVOURITE (3), ASLEEP (4; 1, 0)";
        E.edge(12, sentence, "the first, the last of seven, beside them, far away", "dog(5, 2, 3, 1); "
            + "dog(0, 1, 1, 0); ".repeat(5) + """
            about(6, 0) = BAD; dog(4, 5, 9, 3) = 6; about(-1, 0) = BAD; about(7, 0) = BAD; about(MIN, 0) = BAD
            about(MAX, 0) = BAD; about(0, 0) = 5; about(0, 1) = 2; about(0, 2) = 3; about(0, 3) = 1; about(0, 4) = 0
            about(6, 0) = 4; about(6, 1) = 5; about(6, 2) = 9; about(6, 3) = 3; about(6, 4) = 0
            """);
        E.edge(12, sentence, "what: just below, just above, far away",
            "dog(0, 1, 1, 0); about(0, -1) = BAD; about(0, 7) = BAD; about(0, MIN) = BAD; about(0, MAX) = BAD");
        E.edge(12, sentence, "none there yet", "about(0, 0) = BAD; about(0, 4) = BAD; about(0, 6) = BAD");
        E.edge(12, sentence, "ASLEEP: the first, the last of seven alone", "man(0, 30)\n" + Edges.SEVEN
            + "bribe(0, 0); about(0, 4) = 1; about(1, 4) = 0; about(6, 4) = 0; undo(); bribe(0, 6); about(0, 4) = 0\n"
            + "about(5, 4) = 0; about(6, 4) = 1; round(1); about(6, 4) = 0");
        // By kind: at weight 1, at weight 5, bites.
        int[][] due = {{1, 5, 2}, {0, 0, 2}, {2, 10, 2}, {1, 5, 3}, {2, 10, 1}, {2, 6, 3}};
        for (int kind = 0; kind < 6; kind++) {
            E.edge(12, "how wide its HOLES are (5), how many bites it has (6)", "KIND " + kind + ", the least WEIGHT, the greatest",
                "dog(" + kind + ", 1, 1, 0); dog(" + kind + ", 5, 9, 3); about(0, 5) = " + due[kind][0] + "; about(1, 5) = "
                + due[kind][1] + "; about(0, 6) = " + due[kind][2] + "; about(1, 6) = " + due[kind][2]);
        }
        E.edge(12, "how wide its HOLES are (5), how many bites it has (6)", "one that is ASLEEP is as ever",
            "man(0, 9); dog(5, 5, 9, 3); bribe(0, 0); about(0, 5) = 6; about(0, 6) = 3; about(0, 4) = 1");
    }

    public static void main(String[] args) {
        bribe();
        round();
        order();
        undo();
        of();
        about();
        E.end(8, 12);
    }
}
