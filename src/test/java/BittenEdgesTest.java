/** Edges of promises 13 to 20: bitten, then, won, letters, bribes, still, first, slept. */
public final class BittenEdgesTest {
    private static final Edges E = new Edges("BittenEdgesTest");

    private static final String BEYOND = "(Nothing is changed by these; ROUNDS go beyond 999 in them.)";
    /** Seven mastiffs of all weight, who bite the one CANDIDATE: holes 70 wide a ROUND. */
    private static final String WIDEST = "man(0, 30); " + "dog(2, 5, 1, 3); ".repeat(7) + "\n";
    /** Three CANDIDATES and an old dog, who bites the first one of each ROUND, 2 wide. */
    private static final String OLD_ONE = "man(0, 9); man(0, 9); man(0, 9); dog(4, 1, 1, 3)\n";

    private static void bitten() {
        // By kind: the first boots in which it bites none; the same for its favourite.
        int[][] none = {{8, 0}, {8, 0}, {10, 0}, {8, 8}, {10, 0}, {5, 5}};
        String[] sentences = {"0 PLAIN: not its FAVOURITE, and b is below 8", "1 PUPPY (under PLAIN): as PLAIN; as PLAIN; 0",
            "2 MASTIFF (under PLAIN): not its FAVOURITE", "as PLAIN, its FAVOURITE, too, if b is below 8",
            "4 OLD (under MASTIFF): as MASTIFF", "5 SHARP (under STRAY): as STRAY, if b is below 5"};
        for (int kind = 0; kind < 6; kind++) {
            StringBuilder rows = new StringBuilder();
            for (int favourite = 0; favourite < 2; favourite++) {
                for (int b : new int[] {0, 4, 5, 7, 8, 9}) {
                    rows.append("village(); man(").append(b).append(", 0); dog(").append(kind).append(", 3, 1, ")
                        .append(favourite == 1 ? 0 : 1).append("); bitten(0, 0) = ")
                        .append(b < none[kind][favourite] ? 1 : 0).append('\n');
                }
            }
            E.edge(13, sentences[kind], "boots just below and just above, the least, the greatest; its favourite or not",
                rows.toString());
        }
        // By kind: how many of four it bites, at weight 1 and 5 how wide.
        int[][] due = {{2, 1, 5}, {2, 0, 0}, {2, 2, 10}, {3, 1, 5}, {1, 2, 10}, {3, 2, 6}};
        for (int kind = 0; kind < 6; kind++) {
            StringBuilder rows = new StringBuilder(Edges.FOUR + "dog(" + kind + ", 1, 1, 3); dog(" + kind + ", 5, 1, 3)\n");
            for (int c = 0; c < 4; c++) {
                boolean is = c < due[kind][0];
                rows.append("bitten(").append(c).append(", 0) = ").append(is ? 3 : 0).append("; bitten(").append(c)
                    .append(", 1) = ").append(is ? due[kind][1] + due[kind][2] : 0).append('\n');
            }
            E.edge(13, "how many bites it has in a ROUND; how wide a HOLE is by WEIGHT w",
                "the last that KIND " + kind + " bites, and the next", rows.toString());
        }
        E.edge(13, "BITTEN: by which (0; bits), how wide (1). BAD.", "what: just below, just above, far away",
            "man(0, 0); bitten(0, -1) = BAD; bitten(0, 2) = BAD; bitten(0, MIN) = BAD; bitten(0, MAX) = BAD; bitten(0, 0) = 0");
        E.edge(13, "BITTEN: by which (0; bits), how wide (1). BAD.", "c: nobody there, the first, the last, beside them",
            "bitten(0, 0) = BAD; bitten(0, 1) = BAD\n" + Edges.FOUR + """
            bitten(0, 1) = 0; bitten(3, 1) = 0; bitten(-1, 0) = BAD; bitten(4, 0) = BAD; bitten(MIN, 0) = BAD
            bitten(MAX, 0) = BAD
            """);
        E.edge(13, "by which DOGS (bits); how wide HOLES come to a CANDIDATE in it", "no DOGS, the first, the last, all seven",
            "man(0, 30); bitten(0, 0) = 0; bitten(0, 1) = 0; dog(2, 5, 1, 3); bitten(0, 0) = 1; bitten(0, 1) = 10\n"
            + "dog(2, 5, 1, 0); ".repeat(5) + "dog(2, 5, 1, 3); bitten(0, 0) = 65; bitten(0, 1) = 20; village()\n" + WIDEST
            + "bitten(0, 0) = 127; bitten(0, 1) = 70");
        E.edge(13, "by which DOGS (bits); how wide HOLES come to a CANDIDATE in it", "a puppy bites, 0 wide",
            "man(0, 0); dog(1, 5, 1, 3); bitten(0, 0) = 1; bitten(0, 1) = 0");
        E.edge(13, "by which DOGS (bits); how wide HOLES come to a CANDIDATE in it", "in it alone, not those that are there",
            WIDEST + "round(30); bitten(0, 1) = 70");
        E.edge(13, "BITTEN in this ROUND, as DOGS are", "the last of seven is ASLEEP, then all are", WIDEST + """
            bribe(0, 6); bitten(0, 0) = 63; bitten(0, 1) = 60; bribe(0, 0); bitten(0, 0) = 62; bribe(0, 1); bribe(0, 2)
            bribe(0, 3); bribe(0, 4); bitten(0, 0) = 32; bribe(0, 5); bitten(0, 0) = 0; bitten(0, 1) = 0
            round(1); bitten(0, 0) = 127
            """);
        E.edge(13, BEYOND, "ROUND 999, where none goes by, has bites", OLD_ONE + """
            rounds 999; bitten(0, 1) = 2; bitten(1, 1) = 0; bitten(2, 1) = 0
            man(0, 0); dog(3, 5, 1, 0); bitten(3, 1) = 5; bitten(0, 1) = 7; bitten(1, 1) = 5; bitten(2, 1) = 0
            """);
    }

    private static void then() {
        E.edge(14, "HOLES behind m (0 .. 30) ROUNDS", "the least, one, the greatest", WIDEST + """
            then(0, 0) = 0; then(0, 1) = 70; then(0, 30) = 2100; round(1); then(0, 0) = 70; then(0, 30) = 2170; count(2) = 1
            """);
        E.edge(14, "HOLES behind m (0 .. 30) ROUNDS", "just below, just above, far away",
            WIDEST + "then(0, -1) = BAD; then(0, 31) = BAD; then(0, MIN) = BAD; then(0, MAX) = BAD");
        E.edge(14, "`int then(int c, int m)`: THEN. BAD.", "c: nobody there, the first, the last, beside them, far away",
            "then(0, 0) = BAD\n" + Edges.FOUR + """
            then(0, 0) = 0; then(3, 0) = 0; then(-1, 0) = BAD; then(4, 0) = BAD; then(MIN, 0) = BAD; then(MAX, 0) = BAD
            """);
        E.edge(14, "(DOGS that are ASLEEP now sleep in the first alone)", "m 0, 1, 2, 30", """
            man(0, 9); dog(0, 1, 1, 3); bribe(0, 0); then(0, 0) = 0; then(0, 1) = 0; then(0, 2) = 1; then(0, 30) = 29
            count(3) = 1; of(0, 1) = 8
            """);
        E.edge(14, BEYOND, "from 998, from 999", WIDEST + """
            rounds 998; then(0, 1) = 69930; then(0, 2) = 70000; then(0, 30) = 71960; round(1)
            then(0, 0) = 69930; then(0, 1) = 70000; then(0, 30) = 72030; count(2) = 999
            """);
        E.edge(14, BEYOND, "the first goes round beyond 999 as ever", """
            man(0, 0); man(0, 0); man(0, 0); rounds 999; dog(4, 1, 1, 3)
            then(0, 1) = 2; then(1, 1) = 0; then(1, 2) = 2; then(2, 2) = 0; then(2, 3) = 2; then(0, 3) = 2; then(0, 4) = 4
            then(0, 30) = 20
            """);
    }

    private static void won() {
        E.edge(15, "who is POSTMAN behind m (0 .. 30) ROUNDS", "the least, one, the greatest", """
            man(0, 0); dog(0, 1, 1, 3); won(0, 0) = NONE; won(0, 1) = NONE; won(1, 0) = 0; won(1, 1) = 0; won(30, 0) = 0
            won(30, 1) = 0; round(1); won(0, 0) = 0; won(0, 1) = 0; count(2) = 1
            """);
        E.edge(15, "who is POSTMAN behind m (0 .. 30) ROUNDS", "just below, just above, far away", """
            man(0, 0); won(-1, 0) = BAD; won(31, 0) = BAD; won(MIN, 0) = BAD; won(MAX, 0) = BAD; won(-1, 1) = BAD
            won(31, 1) = BAD
            """);
        E.edge(15, "WON: POSTMAN (0), NEXT VILLAGE (1). NONE. BAD.", "what: just below, just above, far away",
            "man(0, 0); won(0, -1) = BAD; won(0, 2) = BAD; won(0, MIN) = BAD; won(0, MAX) = BAD");
        E.edge(15, "who goes to the NEXT VILLAGE; none", "nobody there, no DOGS, nobody bitten, a puppy alone", """
            won(30, 0) = NONE; won(30, 1) = NONE; man(9, 0); won(30, 0) = NONE; won(30, 1) = NONE; dog(0, 5, 1, 3)
            won(30, 0) = NONE; won(30, 1) = NONE; man(0, 0); village(); man(0, 0); dog(1, 5, 1, 3); won(30, 0) = NONE
            won(30, 1) = NONE
            """);
        E.edge(15, "that with the most, 1 or more; of like ones the first", "0, 1, 1, 0 wide", """
            man(9, 0); man(0, 0); man(0, 0); man(9, 0); dog(0, 1, 1, 3); won(1, 1) = 1; won(1, 0) = 1
            """);
        E.edge(15, "that with the most, 1 or more; of like ones the first", "1 more, behind and ahead", """
            man(0, 0); man(0, 0); dog(0, 1, 1, 3); dog(0, 1, 1, 0); won(1, 1) = 1; won(1, 0) = 0
            village(); man(0, 0); man(0, 0); dog(0, 1, 1, 3); dog(0, 1, 1, 1); won(1, 1) = 0; won(1, 0) = 1
            """);
        E.edge(15, "that with the most, 1 or more; of like ones the first", "all four alike",
            Edges.FOUR + "dog(3, 1, 1, 0); won(4, 0) = 0; won(4, 1) = 0; won(1, 1) = 0; won(1, 0) = 0");
        E.edge(15, "that with the most, 1 or more; of like ones the first", "the last of four alone",
            "man(9, 0); man(9, 0); man(9, 0); man(0, 0); dog(0, 1, 1, 0); won(1, 0) = 3; won(1, 1) = 3");
        E.edge(15, "(DOGS that are ASLEEP now sleep in the first alone)", "m 1, 2",
            "man(0, 9); dog(0, 1, 1, 3); bribe(0, 0); won(1, 0) = NONE; won(1, 1) = NONE; won(2, 0) = 0; won(2, 1) = 0");
        E.edge(15, BEYOND, "from 999", """
            man(0, 0); man(0, 0); man(0, 0); rounds 998; dog(4, 1, 1, 3); round(1); won(0, 0) = 2; won(1, 0) = 0
            won(2, 0) = 0; won(3, 1) = 2; won(2, 1) = 0; won(30, 0) = 0; count(2) = 999
            """);
    }

    private static void letters() {
        String sentence = "DOGS (bits) whose FAVOURITE is not POSTMAN behind this ROUND (nobody is: all)";
        E.edge(16, sentence, "no DOGS: none", "letters() = 0; man(0, 0); letters() = 0");
        E.edge(16, sentence, "nobody is there: all, one and seven", "dog(0, 1, 1, 0); letters() = 1\n"
            + "dog(0, 1, 1, 0); ".repeat(6) + "letters() = 127");
        E.edge(16, sentence, "nobody is bitten: all", "man(9, 0); dog(0, 1, 1, 0); dog(0, 1, 1, 3); letters() = 3");
        E.edge(16, sentence, "all asleep, nobody bitten: all", """
            man(0, 9); dog(0, 1, 1, 0); dog(0, 1, 1, 3); letters() = 2; bribe(0, 1); letters() = 3; round(1); letters() = 2
            """);
        E.edge(16, sentence, "one that is ASLEEP has letters too",
            "man(0, 9); man(9, 0); dog(0, 1, 1, 1); dog(0, 1, 1, 1); bribe(0, 0); letters() = 3");
        E.edge(16, sentence, "all seven have none, the last has", "man(0, 0); dog(3, 1, 1, 0); "
            + "dog(0, 1, 1, 0); ".repeat(5) + "dog(0, 1, 1, 3); letters() = 64; village(); man(0, 0); "
            + "dog(3, 1, 1, 0); ".repeat(7) + "letters() = 0");
        E.edge(16, sentence, "behind this ROUND, not ahead of it, not behind the next", """
            man(0, 0); man(0, 0); dog(4, 1, 1, 3); dog(0, 1, 1, 1); dog(1, 1, 1, 0)
            letters() = 3; round(1); of(0, 2) = 3; of(1, 2) = 0; letters() = 5; round(1); of(0, 2) = 4; of(1, 2) = 2
            letters() = 5
            """);
        E.edge(16, BEYOND, "at 999", """
            man(0, 0); man(0, 0); rounds 999; dog(4, 1, 1, 3); dog(1, 1, 1, 0); dog(1, 1, 1, 1); letters() = 3
            count(2) = 999
            """);
    }

    private static void bribes() {
        String sum = "HUNGER of all together no more than its HAM";
        String least = "the least HAM; which (bits; of like ones the least); none";
        // Dog 0 (4 wide) bites candidate 0 alone, dog 1 (2 wide) candidate 1 alone.
        String two = "dog(2, 2, 9, 1); dog(2, 1, 5, 0)\n";
        E.edge(17, least, "for nothing", "man(0, 0); dog(0, 1, 1, 3); bribes(0, 0) = 0; bribes(0, 1) = 0");
        E.edge(17, least, "nobody can: no DOGS", "man(0, 30); bribes(0, 0) = NONE; bribes(0, 1) = NONE");
        E.edge(17, least, "an unbitten one is nobody, whoever sleeps",
            "man(9, 30); dog(0, 1, 1, 3); bribes(0, 0) = NONE; bribes(0, 1) = NONE");
        E.edge(17, sum, "one DOG: as much, 1 too little", "man(0, 5); man(0, 0)\n" + two
            + "bribes(0, 0) = 5; bribes(0, 1) = 2; village(); man(0, 4); man(0, 30)\n" + two
            + "bribes(0, 0) = NONE; bribes(0, 1) = NONE; bribes(1, 0) = 0; bribes(1, 1) = 0");
        // Dog 0 (6 wide) bites candidate 0; dogs 1 and 2 (2 wide each) candidate 1: for 0 both must sleep.
        String three = "dog(2, 3, 9, 1); dog(2, 1, 4, 0); dog(2, 1, 5, 0)\n";
        E.edge(17, sum, "two DOGS: as much, 1 too little", "man(0, 9); man(0, 0)\n" + three
            + "bribes(0, 0) = 9; bribes(0, 1) = 6; village(); man(0, 8); man(0, 0)\n" + three
            + "bribes(0, 0) = NONE; bribes(0, 1) = NONE");
        String five = "dog(2, 5, 9, 1); dog(2, 1, 9, 0); dog(2, 1, 9, 0); dog(2, 1, 9, 0)\n";
        E.edge(17, sum, "30, the most there is", "man(0, 30); man(0, 0)\n" + five
            + "dog(2, 1, 3, 0); bribes(0, 0) = 30; bribes(0, 1) = 30");
        E.edge(17, sum, "31, more than there is", "man(0, 30); man(0, 0)\n" + five + "dog(2, 1, 4, 0); bribes(0, 0) = NONE");
        E.edge(17, least, "of two like DOGS the first", """
            man(0, 9); man(0, 9); dog(2, 3, 9, 1); dog(2, 2, 3, 0); dog(2, 2, 3, 0); bribes(1, 0) = 3; bribes(1, 1) = 2
            """);
        E.edge(17, least, "two DOGS (bits 3) or one (bits 4) for as much", """
            man(0, 0); man(0, 30); dog(2, 1, 2, 0); dog(2, 1, 4, 0); dog(2, 2, 6, 0); dog(2, 3, 9, 1)
            bribes(1, 0) = 6; bribes(1, 1) = 3; bribes(0, 0) = 0; bribes(0, 1) = 0
            """);
        E.edge(17, least, "less HAM goes ahead of lesser bits", """
            man(0, 0); man(0, 30); dog(2, 2, 4, 0); dog(2, 2, 3, 0); dog(2, 3, 9, 1); bribes(1, 0) = 3; bribes(1, 1) = 2
            """);
        // An old dog bites 0, 1, 0; then candidate 0 has 4, 1 has 2, and in ROUND 3 it would bite 1.
        String ahead = "man(0, 30); man(0, 30); dog(4, 1, 1, 3); round(3)\n";
        E.edge(17, "by whose being bribed by it now it is POSTMAN behind this ROUND", "all DOGS must sleep, seven of them",
            ahead + "dog(0, 2, 1, 0); ".repeat(6) + "bribes(1, 0) = 7; bribes(1, 1) = 127; bribes(0, 0) = 0; bribes(0, 1) = 0");
        E.edge(17, "by whose being bribed by it now it is POSTMAN behind this ROUND", "one of seven may be awake, the last",
            ahead + "dog(0, 1, 1, 0); ".repeat(6) + "bribes(1, 0) = 6; bribes(1, 1) = 63");
        E.edge(17, "by whose being bribed by it now it is POSTMAN behind this ROUND", "HOLES that are there count",
            ahead + "bribes(1, 0) = 1; bribes(1, 1) = 1; bribes(0, 0) = 0; of(1, 1) = 30; count(3) = 0; count(5) = 1");
        E.edge(17, "DOGS that are not ASLEEP", "one that is ASLEEP is no one's to bribe, nor paid for", """
            man(0, 30); man(0, 30); dog(2, 2, 9, 1); dog(2, 1, 5, 0); dog(2, 2, 1, 0); bribes(0, 0) = 0
            bribe(1, 0); bribes(0, 0) = NONE; bribes(1, 0) = 0; bribes(1, 1) = 0
            """);
        E.edge(17, "DOGS that are not ASLEEP", "all seven are ASLEEP", "man(0, 30); " + "dog(0, 1, 1, 3); ".repeat(7) + """

            bribes(0, 0) = 0; bribe(0, 0); bribe(0, 1); bribe(0, 2); bribe(0, 3); bribe(0, 4); bribe(0, 5); bribes(0, 0) = 0
            bribe(0, 6); bribes(0, 0) = NONE; bribes(0, 1) = NONE; round(1); bribes(0, 1) = 0
            """);
        E.edge(17, "`int bribes(int c, int what)`: BRIBES: the least HAM (0), which (1; bits). NONE. BAD.",
            "c: nobody there, the first, the last, beside them; what: beside them", "bribes(0, 0) = BAD\n" + Edges.FOUR + """
            bribes(0, 0) = NONE; bribes(3, 0) = NONE; bribes(-1, 0) = BAD; bribes(4, 0) = BAD; bribes(MIN, 0) = BAD
            bribes(MAX, 0) = BAD; bribes(0, -1) = BAD; bribes(0, 2) = BAD; bribes(0, MIN) = BAD; bribes(0, MAX) = BAD
            """);
        E.edge(17, BEYOND, "at 999", """
            man(0, 9); man(0, 9); rounds 999; dog(4, 1, 1, 3); bribes(0, 0) = NONE; bribes(1, 0) = 0; count(2) = 999
            """);
    }

    private static void still() {
        String sentence = "in how many ROUNDS (1 .. 30) a CANDIDATE is POSTMAN first";
        E.edge(18, sentence, "in the first", "man(0, 0); dog(0, 1, 1, 3); still(0) = 1; round(5); still(0) = 1; count(2) = 5");
        // Dog 0 bites candidate 1 (1 wide), dog 1 candidate 0 (2 wide), but while it sleeps.
        String late = "man(1, 0); man(1, 30); dog(0, 1, 1, 0); dog(0, 2, 1, 1)\n";
        E.edge(18, sentence, "in the 30th", late + "bribe(1, 1); round(1); ".repeat(29) + "still(1) = 30; still(0) = 1");
        E.edge(18, sentence, "in the 31st: none", late + "bribe(1, 1); round(1); ".repeat(30) + "still(1) = NONE; still(0) = 1");
        E.edge(18, sentence, "none: no DOGS, nobody bitten, a puppy alone", """
            man(0, 0); still(0) = NONE; dog(1, 5, 1, 3); still(0) = NONE; village(); man(9, 0); dog(0, 1, 1, 3); still(0) = NONE
            """);
        E.edge(18, sentence, "POSTMAN now, but not behind the first", """
            man(0, 9); man(0, 9); dog(2, 1, 1, 1); dog(2, 1, 1, 0); dog(2, 1, 1, 0); bribe(0, 1); bribe(0, 2); round(1)
            won(0, 0) = 0; still(0) = 1; still(1) = NONE; undo(); undo(); undo(); bribe(0, 0); round(1)
            won(0, 0) = 1; still(1) = NONE; still(0) = 1
            """);
        E.edge(18, "nobody bribing any more; none", "who is ASLEEP now sleeps in the first alone", """
            man(0, 9); dog(0, 1, 1, 3); bribe(0, 0); still(0) = 2; count(3) = 1; round(1); still(0) = 1
            """);
        E.edge(18, "`int still(int c)`: STILL. NONE. BAD.", "c: nobody there, the first, the last, beside them, far away",
            "still(0) = BAD\n" + Edges.FOUR + """
            still(0) = NONE; still(3) = NONE; still(-1) = BAD; still(4) = BAD; still(MIN) = BAD; still(MAX) = BAD
            """);
        E.edge(18, BEYOND, "at 999", """
            man(0, 0); man(0, 0); man(0, 0); rounds 999; dog(4, 1, 1, 3); dog(2, 1, 1, 2); still(0) = 2
            still(1) = 1; count(2) = 999
            """);
    }

    private static void first() {
        String sentence = "the number (0 to how many there are less 1) of the CANDIDATE that should come first in this ROUND";
        String like = "so that a told one has least HOLES in it; of like ones the least; how much";
        E.edge(19, sentence, "one CANDIDATE: 0 and how much", "man(0, 0); dog(0, 1, 1, 3); first(0, 0) = 0; first(0, 1) = 1");
        // A stray bites all of four but the one just ahead of the first.
        E.edge(19, sentence, "each of four, round the end", Edges.FOUR + """
            dog(3, 1, 1, 0); first(0, 0) = 1; first(1, 0) = 2; first(2, 0) = 3; first(3, 0) = 0
            first(0, 1) = 0; first(1, 1) = 0; first(2, 1) = 0; first(3, 1) = 0
            """);
        E.edge(19, like, "all alike, none and some", Edges.FOUR + """
            first(0, 0) = 0; first(3, 0) = 0; first(3, 1) = 0; village(); man(0, 0); man(0, 0); dog(0, 1, 1, 3)
            first(0, 0) = 0; first(0, 1) = 1; first(1, 0) = 0; first(1, 1) = 1
            """);
        E.edge(19, like, "an old dog: alike but for one", OLD_ONE + """
            first(0, 0) = 1; first(0, 1) = 0; first(1, 0) = 0; first(1, 1) = 0; first(2, 0) = 0; first(2, 1) = 0
            """);
        E.edge(19, like, "in it alone: neither the ROUND nor HOLES that are there count", OLD_ONE + """
            round(1); first(0, 0) = 1; first(0, 1) = 0; first(1, 0) = 0; first(1, 1) = 0; round(1); first(2, 0) = 0
            """);
        E.edge(19, "BITTEN in this ROUND, as DOGS are", "the one that bites is ASLEEP",
            OLD_ONE + "bribe(0, 0); first(0, 0) = 0; first(0, 1) = 0");
        E.edge(19, like, "the most", WIDEST + "first(0, 0) = 0; first(0, 1) = 70");
        E.edge(19, "`int first(int c, int what)`: FIRST: which (0), how much (1). BAD.",
            "c: nobody there, the first, the last, beside them; what: beside them", "first(0, 0) = BAD; first(0, 1) = BAD\n"
            + Edges.FOUR + """
            first(0, 0) = 0; first(3, 0) = 0; first(-1, 0) = BAD; first(4, 0) = BAD; first(MIN, 0) = BAD; first(MAX, 0) = BAD
            first(0, -1) = BAD; first(0, 2) = BAD; first(0, MIN) = BAD; first(0, MAX) = BAD
            """);
    }

    private static void slept() {
        String rounds = "(who is ASLEEP now does not matter) in a ROUND r (0 .. 99)";
        String width = "by HOLES that came to a told CANDIDATE in it (x, 0 .. 200)";
        String told = "SLEPT: how many (0), in all (1; bits; NONE: no set), in some (2; bits). BAD.";
        E.edge(20, rounds, "the least, the greatest: the first of them", """
            man(0, 0); man(0, 0); man(0, 0); man(0, 0); dog(4, 1, 1, 3)
            slept(0, 0, 2, 0) = 1; slept(0, 1, 2, 0) = 0; slept(99, 3, 2, 0) = 0; slept(99, 0, 2, 0) = 1
            slept(98, 2, 2, 0) = 1; slept(3, 0, 2, 0) = 1; slept(4, 0, 2, 0) = 1; slept(5, 1, 2, 0) = 1
            """);
        E.edge(20, rounds, "just below, just above, far away",
            "man(0, 0); slept(-1, 0, 0, 0) = BAD; slept(100, 0, 0, 0) = BAD; slept(MIN, 0, 0, 0) = BAD; slept(MAX, 0, 0, 0) = BAD");
        E.edge(20, rounds, "all are ASLEEP now", "man(0, 9); dog(0, 1, 1, 3); bribe(0, 0); slept(0, 0, 1, 0) = 1\n"
            + "slept(0, 0, 1, 1) = 0; slept(0, 0, 0, 0) = 1; slept(0, 0, 0, 1) = 1; count(3) = 1");
        E.edge(20, rounds, "the ROUND that is now does not matter",
            OLD_ONE + "round(1); slept(0, 0, 2, 0) = 1; slept(1, 1, 2, 0) = 1; slept(1, 0, 2, 0) = 0");
        E.edge(20, width, "none, the most there can be, 1 more, the greatest", WIDEST + """
            slept(0, 0, 0, 0) = 1; slept(0, 0, 0, 1) = 127; slept(0, 0, 0, 2) = 127
            slept(0, 0, 70, 0) = 1; slept(0, 0, 70, 1) = 0; slept(0, 0, 70, 2) = 0
            slept(0, 0, 71, 0) = 0; slept(0, 0, 71, 1) = NONE; slept(0, 0, 71, 2) = 0
            slept(0, 0, 200, 0) = 0; slept(0, 0, 200, 1) = NONE; slept(0, 0, 200, 2) = 0
            """);
        E.edge(20, width, "just below, just above, far away",
            "man(0, 0); slept(0, 0, -1, 0) = BAD; slept(0, 0, 201, 0) = BAD; slept(0, 0, MIN, 0) = BAD; slept(0, 0, MAX, 0) = BAD");
        E.edge(20, told, "no DOGS: one set, the empty one", """
            man(0, 0); slept(0, 0, 0, 0) = 1; slept(0, 0, 0, 1) = 0; slept(0, 0, 0, 2) = 0
            slept(0, 0, 1, 0) = 0; slept(0, 0, 1, 1) = NONE; slept(0, 0, 1, 2) = 0
            """);
        E.edge(20, told, "all sets of seven fit", "man(0, 0); " + "dog(1, 1, 1, 3); ".repeat(7)
            + "slept(0, 0, 0, 0) = 128; slept(0, 0, 0, 1) = 0; slept(0, 0, 0, 2) = 127");
        E.edge(20, told, "the first, the last of seven slept, the others may have", "man(0, 0); dog(0, 1, 1, 3); "
            + "dog(1, 1, 1, 3); ".repeat(5) + """
            dog(0, 1, 1, 3)
            slept(0, 0, 0, 0) = 32; slept(0, 0, 0, 1) = 65; slept(0, 0, 0, 2) = 127
            slept(0, 0, 1, 0) = 64; slept(0, 0, 1, 1) = 0; slept(0, 0, 2, 2) = 62
            """);
        E.edge(20, told, "c: nobody there, the first, the last, beside them; what: beside them", "slept(0, 0, 0, 0) = BAD\n"
            + Edges.FOUR + """
            slept(0, 0, 0, 0) = 1; slept(0, 3, 0, 0) = 1; slept(0, -1, 0, 0) = BAD; slept(0, 4, 0, 0) = BAD
            slept(0, MIN, 0, 0) = BAD; slept(0, MAX, 0, 0) = BAD; slept(0, 0, 0, -1) = BAD; slept(0, 0, 0, 3) = BAD
            slept(0, 0, 0, MIN) = BAD; slept(0, 0, 0, MAX) = BAD
            """);
        E.edge(20, BEYOND, "r is told, whatever ROUND is now",
            OLD_ONE + "rounds 999; slept(99, 0, 2, 0) = 1; slept(0, 0, 2, 0) = 1; slept(1, 0, 2, 0) = 0");
    }

    public static void main(String[] args) {
        bitten();
        then();
        won();
        letters();
        bribes();
        still();
        first();
        slept();
        E.end(13, 20);
    }
}
