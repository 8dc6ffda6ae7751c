/** Edges of promises 28 to 33: part, image, from, status, count, digest; and what a refused call leaves. */
public final class KeptEdgesTest {
    private static final Edges E = new Edges("KeptEdgesTest");

    private static void part() {
        E.edge(28, "THE FRACTION is 0 by 1 at first", "nothing there yet", "part(0) = 0; part(1) = 1");
        E.edge(28, "THE FRACTION: above (0), below (1). BAD.", "what: just below, just above, far away",
            "part(-1) = BAD; part(2) = BAD; part(MIN) = BAD; part(MAX) = BAD; part(0) = 0; part(1) = 1");
        E.edge(28, "THE FRACTION: above (0), below (1). BAD.", "the last one told stays till the next", """
            man(0, 0); man(9, 0); dog(0, 1, 1, 3); strays(0, 3); part(0) = 7; part(1) = 10; round(1); dog(0, 1, 1, 3)
            part(0) = 7; part(1) = 10; strays(1, 3); part(0) = 0; part(1) = 1
            """);
    }

    private static void images() {
        String keep = "An IMAGE is kept: 1. BAD.";
        String from = "It goes on from an IMAGE: 1. BAD; NO: none was kept.";
        String all = "IMAGES 0, 1 keep all but them, THE TEXT, THE FRACTION and STATUS; what may be undone they keep; it goes on from one";
        E.edge(29, keep, "the least, the greatest", "image(0) = 1; image(1) = 1");
        E.edge(29, keep, "just below, just above, far away",
            "image(-1) = BAD; image(2) = BAD; image(MIN) = BAD; image(MAX) = BAD; from(0) = NO; from(1) = NO");
        E.edge(29, keep, "one with nothing in it is one",
            "image(0) = 1; man(0, 0); dog(0, 1, 1, 0); from(0) = 1; count(0) = 0; count(1) = 0");
        E.edge(29, keep, "a later one takes its place, the other stays", """
            man(1, 0); image(0) = 1; image(1) = 1; man(2, 0); image(0) = 1; village(); from(0) = 1; count(0) = 2
            from(1) = 1; count(0) = 1
            """);
        E.edge(30, from, "just below, just above, far away", "image(0); image(1); from(-1) = BAD; from(2) = BAD; from(MIN) = BAD; from(MAX) = BAD");
        E.edge(30, from, "none was kept at the one, at the other",
            "from(0) = NO; from(1) = NO; image(0); from(1) = NO; from(0) = 1; image(1); from(1) = 1");
        E.edge(30, from, "none was kept at the other", "from(0) = NO; image(1); from(0) = NO; from(1) = 1");
        E.edge(30, from, "again and again, whatever came between", """
            man(3, 9); dog(0, 1, 1, 3); image(0); keep; round(3); bribe(0, 0); note(0, 0, 0, 0); from(0) = 1; same
            man(0, 0); dog(0, 1, 1, 0); from(0) = 1; same; village(); from(0) = 1; same
            """);
        E.edge(30, from, "an IMAGE of an IMAGE", "man(3, 9); image(0); keep; village(); from(0); image(1); village(); from(1) = 1; same");
        E.edge(30, all, "all places taken: four, seven, six NOTES, eight that may be undone, ROUND 999", "man(1, 30); man(2, 30); man(3, 30)\n"
            + "man(4, 30); dog(0, 1, 1, 0); dog(1, 2, 2, 1); dog(2, 3, 3, 2); dog(3, 4, 4, 3); dog(4, 5, 5, 0); dog(5, 1, 6, 1)\n"
            + "dog(2, 2, 9, 2); note(0, 0, 1, 0); note(1, 1, 2, 1); note(2, 0, 3, 0); note(3, 1, 4, 1); note(4, 0, 5, 0)\n"
            + "note(6, 1, 9, 1); rounds 993; round(1); round(1); round(1); round(1); round(1); round(1)\n"
            + "bribe(3, 6); bribe(0, 0); image(1); keep; village(); man(9, 1); man(9, 1); man(9, 1); man(9, 1)\n"
            + "dog(5, 5, 1, 0); ".repeat(7) + "note(5, 1, 8, 0); ".repeat(6) + "round(1); ".repeat(9)
            + """
            from(1) = 1; same; count(0) = 4; count(1) = 7; count(2) = 999; count(3) = 2; count(4) = 6; count(5) = 8
            undo() = 999; undo() = 999; undo() = 998; undo() = 997; undo() = 996; undo() = 995; undo() = 994; undo() = 993
            undo() = NO; of(3, 1) = 30; about(6, 4) = 0; from(1) = 1; same
            """);
        E.edge(30, all, "what may be undone is the IMAGE's, none or some", """
            man(0, 0); image(0); round(1); round(1); image(1); from(0) = 1; count(5) = 0; undo() = NO; round(5); round(5)
            round(5); from(1) = 1; count(5) = 2; undo() = 1; undo() = 0; undo() = NO; from(1) = 1; undo() = 1
            """);
        E.edge(30, all, "THE TEXT, THE FRACTION, STATUS are not the IMAGE's", """
            image(0); man(0, 0); dog(0, 1, 1, 3); strays(0, 3)
            text village;man 1 2;
            man(10, 0) = BAD; from(0) = 1; part(0) = 7; part(1) = 10; count(6) = 16; status(0) = 1; read() = 2
            """);
    }

    private static void status() {
        String sentence = "how many calls were refused as BAD, NO, FULL (each answer told so below is such a one)";
        E.edge(31, sentence, "none yet", "status(0) = 0; status(1) = 0; status(2) = 0");
        E.edge(31, sentence, "one of each", Edges.FOUR + """
            undo() = NO; status(0) = 0; status(1) = 1; status(2) = 0; man(0, 0) = FULL; status(0) = 0; status(1) = 1; status(2) = 1
            man(0, 31) = BAD; status(0) = 1; status(1) = 1; status(2) = 1
            """);
        E.edge(31, sentence, "many", "undo() = NO; ".repeat(40) + "status(1) = 40; status(0) = 0; status(2) = 0");
        E.edge(31, "STATUS: BAD (0), NO (1), FULL (2). -1: another what (counts as BAD).", "just below, just above, far away",
            "status(-1) = -1 BAD; status(3) = -1 BAD; status(MIN) = -1 BAD; status(MAX) = -1 BAD; status(0) = 4");
        E.edge(31, sentence, "NONE, a FAULT, -5 are not told so", """
            man(0, 0); man(0, 0); round(1) = NONE; won(0, 0) = NONE; bribes(0, 0) = NONE; still(0) = NONE
            slept(0, 0, 1, 1) = NONE; villages(0, 0) = NONE; two(0, 1, 9) = -5; read() = -10; dog(0, 1, 1, 0)
            note(0, 1, 9, 1); send(0) = NONE; status(0) = 0; status(1) = 0; status(2) = 0
            """);
        E.edge(31, sentence, "those told by another number: two's -10, status's -1",
            "two(0, 0, 0) = -10 BAD; status(3) = -1 BAD; status(0) = 2; status(1) = 0; status(2) = 0");
    }

    private static void count() {
        String sentence = "How many: 0 CANDIDATES, 1 DOGS, 2 the ROUND, 3 ASLEEP, 4 NOTES, 5 that may be undone, 6 bytes of THE TEXT. BAD.";
        E.edge(32, sentence, "nothing there yet",
            "count(0) = 0; count(1) = 0; count(2) = 0; count(3) = 0; count(4) = 0; count(5) = 0; count(6) = 0");
        E.edge(32, sentence, "just below, just above, far away", "count(-1) = BAD; count(7) = BAD; count(MIN) = BAD; count(MAX) = BAD");
        E.edge(32, sentence, "all places taken", Edges.FOUR + Edges.SEVEN + "note(0, 0, 0, 0); ".repeat(6) + "type(97); ".repeat(150)
            + "rounds 999; bribe(0, 0); bribe(0, 1); bribe(0, 2); bribe(0, 3); bribe(0, 4); bribe(0, 5); bribe(0, 6)\n"
            + "count(0) = 4; count(1) = 7; count(2) = 999; count(3) = 7; count(4) = 6; count(5) = 8; count(6) = 150");
    }

    /** By the document: h = 1367; then h = 31 h + v. */
    private static long digestOf(int... values) {
        java.math.BigInteger h = java.math.BigInteger.valueOf(1367);
        for (int v : values) {
            h = h.multiply(java.math.BigInteger.valueOf(31)).add(java.math.BigInteger.valueOf(v));
        }
        return h.longValue();
    }

    private static void digest() {
        String sentence = "h = 1367; then h = 31 h + v for each v: count(0) to count(6)";
        E.edge(33, sentence, "nothing there yet", "digest() = " + digestOf(0, 0, 0, 0, 0, 0, 0, 0, 1));
        E.edge(33, sentence, "one of each: less than a long's end", "man(9, 30); dog(5, 4, 3, 2); note(0, 1, 7, 1); digest() = "
            + digestOf(1, 1, 0, 0, 1, 0, 0, 9, 30, 0, 5, 4, 3, 2, 0, 0, 1, 7, 1, 0, 1));
        // Behind a round of seven strays (weights 1 to 5, 1, 2): candidate 3 is bitten by none, the others 18 wide each.
        E.edge(33, sentence, "all places taken: it goes round a long's end again and again", """
            man(0, 30); man(1, 29); man(2, 28); man(3, 27); dog(3, 1, 1, 0); dog(3, 2, 2, 1); dog(3, 3, 3, 2); dog(3, 4, 4, 3)
            dog(3, 5, 5, 0); dog(3, 1, 6, 1); dog(3, 2, 7, 2); note(0, 0, 0, 0); note(1, 1, 1, 1); note(2, 0, 2, 0)
            note(3, 1, 3, 1); note(4, 0, 4, 0); note(6, 1, 9, 1); round(1); bribe(3, 6); strays(0, 3); type(0)
            """ + "digest() = " + digestOf(4, 7, 1, 1, 6, 2, 1, 0, 30, 18, 1, 29, 18, 2, 28, 18, 3, 20, 0, 3, 1, 1, 0, 0, 3, 2, 2, 1, 0,
                3, 3, 3, 2, 0, 3, 4, 4, 3, 0, 3, 5, 5, 0, 0, 3, 1, 6, 1, 0, 3, 2, 7, 2, 1, 0, 0, 0, 0, 1, 1, 1, 1, 2, 0, 2, 0,
                3, 1, 3, 1, 4, 0, 4, 0, 6, 1, 9, 1, 0, 1));
        E.edge(33, "ASLEEP (1, 0); of NOTES k, favourite, b, bit; THE FRACTION", "a FRACTION, a DOG that is ASLEEP, two NOTES",
            "man(0, 9); dog(0, 1, 1, 3); dog(0, 1, 1, 3); bribe(0, 1); strays(0, 3); note(1, 0, 5, 0); note(0, 1, 9, 1); digest() = "
            + digestOf(1, 2, 0, 1, 2, 1, 0, 0, 8, 0, 0, 1, 1, 3, 0, 0, 1, 1, 3, 1, 1, 0, 5, 0, 0, 1, 9, 1, 7, 10));
        E.edge(33, sentence, "what is not in it: STATUS, IMAGES, which bytes THE TEXT has",
            "keep; undo() = NO; same; image(0); image(1); same; type(97); keep; clear(); type(98); same");
    }

    /** Each call, refused for each reason that it has, in a village where all places are taken. */
    private static void refused() {
        String sentence = "Refused, changing nothing but STATUS";
        String full = "man(1, 30); man(2, 30); man(3, 30); man(4, 2); dog(0, 1, 1, 0); dog(1, 2, 2, 1); dog(2, 3, 3, 2)\n"
            + "dog(3, 4, 4, 3); dog(4, 5, 5, 0); dog(5, 1, 6, 1); dog(2, 2, 9, 2)\n"
            + "note(0, 0, 1, 0); ".repeat(6) + "image(0); round(1); round(30); bribe(0, 6)\n"
            + "text village;man 3 9;" + " ".repeat(134) + "\n";
        String calls = """
            man(10, 0) = BAD; man(0, 0) = FULL; dog(6, 1, 1, 0) = BAD; dog(0, 1, 1, 0) = FULL; type(128) = BAD; type(59) = FULL
            bribe(4, 0) = BAD; bribe(0, 6) = NO; bribe(3, 2) = NO; round(31) = BAD; of(0, 3) = BAD; about(7, 0) = BAD
            bitten(0, 2) = BAD; then(0, 31) = BAD; won(31, 0) = BAD; bribes(0, 2) = BAD; still(4) = BAD; first(0, 2) = BAD
            slept(100, 0, 0, 0) = BAD; note(0, 0, 10, 0) = BAD; note(0, 0, 0, 0) = FULL; is(7) = BAD; send(7) = BAD
            two(0, 0, 0) = -10 BAD; strays(0, 11) = BAD; villages(0, 61) = BAD; part(2) = BAD; image(2) = BAD; from(2) = BAD
            from(1) = NO; status(3) = -1 BAD; count(7) = BAD
            """;
        E.edge(31, sentence, "what may be undone stays, and the rest as it was", full + calls + """
            status(0) = 25; status(1) = 3; status(2) = 4; count(5) = 3; undo() = 31; about(6, 4) = 0; of(0, 1) = 30; undo() = 1
            undo() = 0; undo() = NO; of(0, 2) = 0
            """);
        E.edge(31, sentence, "THE TEXT stays, byte by byte", full + calls + "read() = 2; of(0, 0) = 3; of(0, 1) = 9; count(6) = 150");
        E.edge(31, sentence, "IMAGES stay, the one that is and the one that is not", full + calls + """
            from(1) = NO; from(0) = 1; count(0) = 4; count(1) = 7; count(2) = 0; count(3) = 0; count(4) = 6; count(5) = 0
            """);
    }

    /** Most calls of an object. */
    private static void manyCalls() {
        String sentence = "An object is used for at most 512 calls after it has been made";
        E.edge(1, sentence, "texts read to the last", "text village;man 3 9;dog 0 1 2 3;bribe 0 0;\n" + "read() = 4; ".repeat(235)
            + "clear() = 38; " + "read() = -10; ".repeat(233) + "count(0) = 1");
        E.edge(1, sentence, "rounds and what is undone to the last",
            "man(0, 0); dog(0, 1, 1, 3); " + "round(1) = 0; round(2) = 0; undo() = 1; undo() = 0; ".repeat(126) + "count(2) = 0");
        E.edge(1, sentence, "images to the last", "man(3, 9); " + "image(0) = 1; image(1) = 1; from(0) = 1; from(1) = 1; ".repeat(126)
            + "count(0) = 1");
        // By seed 999999 candidates 0, 1, 2 come to 172, 171, 105 holes in the end.
        E.edge(1, sentence, "the dearest that only ask, to the last", Edges.FOUR + "dog(0, 1, 1, 3); ".repeat(7)
            + "bribes(3, 0) = NONE; slept(99, 0, 7, 0) = 1; two(2, 3, -1) = 1; villages(999999, 60) = 2; ".repeat(41)
            + "count(0) = 4");
    }

    public static void main(String[] args) {
        part();
        images();
        status();
        count();
        digest();
        refused();
        manyCalls();
        E.end(28, 33);
    }
}
