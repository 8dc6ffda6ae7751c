/** Edges of promises 1 to 6: a new object, village, man, dog, type, clear. */
public final class VillageEdgesTest {
    private static final Edges E = new Edges("VillageEdgesTest");

    private static void aNewObject() {
        E.edge(1, "no CANDIDATES, DOGS", "nothing is there yet", """
            count(0) = 0; count(1) = 0; of(0, 0) = BAD; about(0, 0) = BAD; bribe(0, 0) = BAD; note(0, 0, 0, 0) = BAD
            letters() = 0; won(0, 0) = NONE; won(0, 1) = NONE; won(30, 0) = NONE; won(30, 1) = NONE
            villages(0, 0) = NONE; villages(999999, 60) = NONE; is(0) = BAD; send(0) = BAD
            """);
        E.edge(1, "no CANDIDATES, DOGS", "a ROUND goes by with nobody in it", """
            round(1) = NONE; count(2) = 1; round(30) = NONE; count(2) = 31; undo() = 1; undo() = 0
            """);
        E.edge(1, "ASLEEP (bits of DOGS; none at first)", "nothing is there yet", "count(3) = 0");
        E.edge(1, "ROUNDS have numbers, 0 at first", "nothing is there yet", "count(2) = 0");
        E.edge(1, "THE FRACTION is 0 by 1 at first", "nothing is there yet", "part(0) = 0; part(1) = 1");
        E.edge(1, "`DogsPostman()`: As told", "no NOTES yet", "count(4) = 0; forget() = 0");
        E.edge(1, "`DogsPostman()`: As told", "nothing may be undone yet", "count(5) = 0; undo() = NO");
        E.edge(1, "`DogsPostman()`: As told", "THE TEXT is empty yet", "count(6) = 0; clear() = 0; read() = -10");
        E.edge(1, "`DogsPostman()`: As told", "no IMAGE yet", "from(0) = NO; from(1) = NO");
        E.edge(1, "`DogsPostman()`: As told", "STATUS 0", "status(0) = 0; status(1) = 0; status(2) = 0");
    }

    private static void village() {
        E.edge(2, "how many DOGS there were", "none yet, all places taken, none again",
            "village() = 0\n" + Edges.SEVEN + "village() = 7; village() = 0");
        E.edge(2, "how many DOGS there were", "DOGS, not CANDIDATES", Edges.FOUR + "dog(0, 1, 1, 0); village() = 1");
        E.edge(2, "All as at first", "all places are taken and then free again",
            Edges.FOUR + Edges.SEVEN + "note(0, 0, 0, 0); ".repeat(6) + """
            man(0, 0) = FULL; dog(0, 1, 1, 0) = FULL; note(0, 0, 0, 0) = FULL; village() = 7
            count(0) = 0; count(1) = 0; count(4) = 0; of(0, 0) = BAD; about(0, 0) = BAD
            man(0, 0) = 0; man(0, 0) = 1; man(0, 0) = 2; man(0, 0) = 3; man(0, 0) = FULL
            dog(0, 1, 1, 0) = 0; dog(0, 1, 1, 0) = 1; dog(0, 1, 1, 0) = 2; dog(0, 1, 1, 0) = 3
            dog(0, 1, 1, 0) = 4; dog(0, 1, 1, 0) = 5; dog(0, 1, 1, 0) = 6; dog(0, 1, 1, 0) = FULL
            note(0, 0, 0, 0) = 1
            """);
        E.edge(2, "All as at first", "no NOTE of one with the same number is left", """
            dog(0, 1, 1, 0); note(0, 0, 0, 0); note(0, 0, 0, 1); is(0) = 0
            village() = 1; dog(0, 1, 1, 0); is(0) = 63
            """);
        E.edge(2, "All as at first", "nothing may be undone any more",
            "man(0, 0); round(1); round(1); village() = 0; count(5) = 0; undo() = NO; count(2) = 0");
        E.edge(2, "ROUNDS have numbers, 0 at first", "from the last one, 999", "rounds 999; village(); count(2) = 0");
        E.edge(2, "HOLES of each CANDIDATE (0 at first)", "one with the same number had some", """
            man(0, 0); dog(0, 5, 1, 3); round(30); of(0, 2) = 150
            village(); man(0, 0); of(0, 2) = 0; won(0, 0) = NONE
            """);
        E.edge(2, "ASLEEP (bits of DOGS; none at first)", "all with the same numbers slept",
            "man(0, 30)\n" + Edges.SEVEN + """
            bribe(0, 0); bribe(0, 1); bribe(0, 2); bribe(0, 3); bribe(0, 4); bribe(0, 5); bribe(0, 6); count(3) = 7
            village() = 7; count(3) = 0; man(0, 0); dog(0, 1, 1, 3); about(0, 4) = 0; bitten(0, 1) = 1; count(3) = 0
            """);
        E.edge(2, "(but for IMAGES, THE TEXT, THE FRACTION, STATUS)", "IMAGES stay", """
            man(3, 4); dog(5, 5, 9, 3); image(0); image(1); keep
            village() = 1; village() = 0; from(1) = 1; same; village() = 1; from(0) = 1; same
            """);
        E.edge(2, "(but for IMAGES, THE TEXT, THE FRACTION, STATUS)", "THE TEXT stays, all of it", """
            text village;man 3 4;
            village() = 0; count(6) = 16; read() = 2; of(0, 0) = 3; of(0, 1) = 4
            """);
        E.edge(2, "(but for IMAGES, THE TEXT, THE FRACTION, STATUS)", "THE FRACTION stays", """
            man(0, 0); dog(0, 1, 1, 3); strays(0, 3) = 1; village() = 1; part(0) = 7; part(1) = 10
            """);
        E.edge(2, "(but for IMAGES, THE TEXT, THE FRACTION, STATUS)", "STATUS stays", Edges.FOUR + """
            man(-1, 0) = BAD; undo() = NO; man(0, 0) = FULL; village() = 0
            status(0) = 1; status(1) = 1; status(2) = 1
            """);
    }

    private static void man() {
        E.edge(3, "BOOTS (0 .. 9)", "the least, the greatest", """
            man(0, 7) = 0; man(9, 8) = 1; of(0, 0) = 0; of(1, 0) = 9; of(0, 1) = 7; of(1, 1) = 8
            """);
        E.edge(3, "BOOTS (0 .. 9)", "just below, just above, far away",
            "man(-1, 7) = BAD; man(10, 7) = BAD; man(MIN, 7) = BAD; man(MAX, 7) = BAD; count(0) = 0");
        E.edge(3, "HAM (0 .. 30)", "the least, the greatest",
            "man(3, 0) = 0; man(4, 30) = 1; of(0, 1) = 0; of(1, 1) = 30; of(0, 0) = 3; of(1, 0) = 4");
        E.edge(3, "HAM (0 .. 30)", "just below, just above, far away",
            "man(3, -1) = BAD; man(3, 31) = BAD; man(3, MIN) = BAD; man(3, MAX) = BAD; count(0) = 0");
        E.edge(3, "A CANDIDATE: the number", "from the first to the last",
            "man(0, 0) = 0; man(0, 0) = 1; man(0, 0) = 2; man(0, 0) = 3; count(0) = 4");
        E.edge(3, "A CANDIDATE: the number", "one refused takes none", "man(10, 0) = BAD; man(0, 0) = 0");
        E.edge(3, "FULL: 4.", "a fifth, and none of the four is another", """
            man(1, 11) = 0; man(2, 12) = 1; man(3, 13) = 2; man(4, 14) = 3; man(5, 15) = FULL; man(0, 0) = FULL
            of(0, 0) = 1; of(0, 1) = 11; of(3, 0) = 4; of(3, 1) = 14; of(4, 0) = BAD; count(0) = 4
            """);
        E.edge(3, "the first of: BAD -2 a number is not as told; NO -3 as told; FULL -4", "BAD ahead of FULL",
            Edges.FOUR + "man(10, 0) = BAD; man(-1, 0) = BAD; man(0, 31) = BAD; man(0, -1) = BAD; man(9, 30) = FULL");
        E.edge(3, "HOLES of each CANDIDATE (0 at first)", "one that comes behind ROUNDS", """
            man(0, 0); dog(0, 2, 1, 3); round(3) = 0; of(0, 2) = 6; man(0, 0) = 1; of(1, 2) = 0; of(0, 2) = 6
            count(2) = 3
            """);
    }

    private static void dog() {
        E.edge(4, "a KIND, a WEIGHT (1 .. 5)", "the least and the greatest KIND",
            "dog(0, 1, 1, 0) = 0; dog(5, 1, 1, 0) = 1; about(0, 0) = 0; about(1, 0) = 5");
        E.edge(4, "a KIND, a WEIGHT (1 .. 5)", "a KIND just below, just above, far away",
            "dog(-1, 1, 1, 0) = BAD; dog(6, 1, 1, 0) = BAD; dog(MIN, 1, 1, 0) = BAD; dog(MAX, 1, 1, 0) = BAD");
        E.edge(4, "a WEIGHT (1 .. 5)", "the least, the greatest",
            "dog(0, 1, 1, 0) = 0; dog(0, 5, 1, 0) = 1; about(0, 1) = 1; about(1, 1) = 5");
        E.edge(4, "a WEIGHT (1 .. 5)", "just below, just above, far away",
            "dog(0, 0, 1, 0) = BAD; dog(0, 6, 1, 0) = BAD; dog(0, MIN, 1, 0) = BAD; dog(0, MAX, 1, 0) = BAD");
        E.edge(4, "a HUNGER (1 .. 9)", "the least, the greatest",
            "dog(0, 1, 1, 0) = 0; dog(0, 1, 9, 0) = 1; about(0, 2) = 1; about(1, 2) = 9");
        E.edge(4, "a HUNGER (1 .. 9)", "just below, just above, far away",
            "dog(0, 1, 0, 0) = BAD; dog(0, 1, 10, 0) = BAD; dog(0, 1, MIN, 0) = BAD; dog(0, 1, MAX, 0) = BAD");
        E.edge(4, "a FAVOURITE (0 .. 3, there or not)", "the least, the greatest, nobody there",
            "dog(0, 1, 1, 0) = 0; dog(0, 1, 1, 3) = 1; about(0, 3) = 0; about(1, 3) = 3");
        E.edge(4, "a FAVOURITE (0 .. 3, there or not)", "just below, just above, far away",
            Edges.FOUR + "dog(0, 1, 1, -1) = BAD; dog(0, 1, 1, 4) = BAD; dog(0, 1, 1, MIN) = BAD\n"
            + "dog(0, 1, 1, MAX) = BAD; count(1) = 0");
        E.edge(4, "a FAVOURITE (0 .. 3, there or not)", "one that comes behind its DOG", """
            man(0, 0); dog(0, 1, 1, 1); bitten(0, 0) = 1; man(0, 0) = 1; bitten(0, 0) = 1; bitten(1, 0) = 0
            """);
        E.edge(4, "A DOG: its number", "from the first to the last", """
            dog(0, 1, 1, 0) = 0; dog(0, 1, 1, 0) = 1; dog(0, 1, 1, 0) = 2; dog(0, 1, 1, 0) = 3
            dog(0, 1, 1, 0) = 4; dog(0, 1, 1, 0) = 5; dog(0, 1, 1, 0) = 6; count(1) = 7
            """);
        E.edge(4, "A DOG: its number", "one refused takes none", "dog(6, 1, 1, 0) = BAD; dog(0, 1, 1, 0) = 0");
        E.edge(4, "FULL: 7.", "an eighth, and none of the seven is another",
            "dog(2, 3, 4, 1); " + "dog(0, 1, 1, 0); ".repeat(5) + """
            dog(3, 4, 5, 2) = 6; dog(5, 5, 9, 3) = FULL; dog(0, 1, 1, 0) = FULL
            about(0, 0) = 2; about(0, 1) = 3; about(0, 2) = 4; about(0, 3) = 1
            about(6, 0) = 3; about(6, 1) = 4; about(6, 2) = 5; about(6, 3) = 2; about(7, 0) = BAD
            """);
        E.edge(4, "the first of: BAD -2 a number is not as told; NO -3 as told; FULL -4", "BAD ahead of FULL",
            Edges.SEVEN + """
            dog(6, 1, 1, 0) = BAD; dog(0, 6, 1, 0) = BAD; dog(0, 1, 10, 0) = BAD; dog(0, 1, 1, 4) = BAD
            dog(-1, 1, 1, 0) = BAD; dog(0, 0, 1, 0) = BAD; dog(0, 1, 0, 0) = BAD; dog(0, 1, 1, -1) = BAD
            dog(5, 5, 9, 3) = FULL
            """);
        E.edge(4, "ASLEEP (bits of DOGS; none at first)", "one that comes while another sleeps", """
            man(0, 9); dog(0, 1, 1, 3); bribe(0, 0); dog(0, 1, 1, 3) = 1; about(0, 4) = 1; about(1, 4) = 0; count(3) = 1
            """);
    }

    private static void type() {
        E.edge(5, "A byte (0 .. 127) comes behind THE TEXT", "the least, the greatest", "type(0) = 1; type(127) = 2");
        E.edge(5, "A byte (0 .. 127) comes behind THE TEXT", "just below, just above, far away",
            "type(-1) = BAD; type(128) = BAD; type(MIN) = BAD; type(MAX) = BAD; type(374) = BAD; count(6) = 0");
        E.edge(5, "A byte (0 .. 127) comes behind THE TEXT", "one refused leaves no gap", """
            text village;man 3
            type(-1) = BAD; type(128) = BAD
            more  9;
            read() = 2; of(0, 0) = 3; of(0, 1) = 9
            """);
        E.edge(5, "how many it has", "the first, the last of all places",
            "type(97) = 1\n" + "type(97); ".repeat(148) + "type(97) = 150; count(6) = 150");
        E.edge(5, "THE VILLAGE is told by a TEXT (150 bytes at most)", "one byte more, and all 150 stay",
            "text village;man 3 9;" + " ".repeat(133) + ";\n" + """
            count(6) = 150; type(32) = FULL; type(59) = FULL; type(127) = FULL; count(6) = 150; read() = -159
            """);
        E.edge(5, "THE VILLAGE is told by a TEXT (150 bytes at most)", "a place is free again behind clear",
            "type(97); ".repeat(150) + "type(97) = FULL; clear() = 150; type(97) = 1");
        E.edge(5, "the first of: BAD -2 a number is not as told; NO -3 as told; FULL -4", "BAD ahead of FULL",
            "type(97); ".repeat(150) + "type(-1) = BAD; type(128) = BAD; type(0) = FULL");
    }

    private static void clear() {
        E.edge(6, "THE TEXT is empty: how many it had", "nothing there yet", "clear() = 0; count(6) = 0; clear() = 0");
        E.edge(6, "THE TEXT is empty: how many it had", "one byte", "type(0); clear() = 1; count(6) = 0; clear() = 0");
        E.edge(6, "THE TEXT is empty: how many it had", "all places taken",
            "type(97); ".repeat(150) + "clear() = 150; count(6) = 0; clear() = 0; read() = -10");
        E.edge(6, "THE TEXT is empty: how many it had", "no byte that was there comes back", """
            text village;
            read() = 1; clear() = 8
            more village
            read() = -17; count(6) = 7
            """);
        E.edge(6, "THE TEXT is empty: how many it had", "the village stays", """
            man(1, 2); dog(0, 1, 1, 0); note(0, 0, 0, 0); round(1); keep
            type(97); clear() = 1; same
            """);
    }

    public static void main(String[] args) {
        aNewObject();
        village();
        man();
        dog();
        type();
        clear();
        E.end(1, 6);
    }
}
