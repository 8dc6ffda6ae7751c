/** Edges of promise 7, read: what a TEXT may be, and where its FAULT is. */
public final class ReadEdgesTest {
    private static final Edges E = new Edges("ReadEdgesTest");

    private static final String ITEMS = "TEXT (150 bytes at most) of ITEMS, each ended by ;";
    private static final String FAULT = "FAULT: the place of the first byte of the first TOKEN that can not stand there";
    private static final String NO_WORD = "a word that is none";
    private static final String AHEAD = "village again, anything ahead of it";
    private static final String PLACES = "a 5th man, an 8th dog at its word";
    private static final String THREE = "a run of three figures or more (at its first one)";
    private static final String NUMBER = "a number not as told";
    private static final String NOT_THERE = "also a CANDIDATE that is not there yet, a DOG that is not";
    private static final String MAY_NOT = "is ASLEEP, or hungrier than HAM";
    private static final String NO_TOKEN = "a byte that begins none, too";
    private static final String EARLY = "the TEXT's length, if it ends too early (an empty one, too)";
    private static final String STAYS = "-10 less the FAULT: all stays";
    private static final String BLANKS = "blanks (32), any number, ahead of, between and behind TOKENS";
    private static final String NEEDED = "needed only between two words, two numbers";
    private static final String FIGURES = "figures (1 or 2 are one number)";
    private static final String KIND = "words of letters a .. z (a KIND is told as its number)";
    private static final String TAKES =
        "A VILLAGE that is read takes the place of all but IMAGES, THE TEXT, THE FRACTION, STATUS";

    /** One with two CANDIDATES, a DOG asleep, a NOTE, a ROUND, things to undo; nothing of it is as in the texts. */
    private static final String BEFORE = """
        man(7, 20) = 0; man(6, 19) = 1; dog(5, 4, 8, 2) = 0; dog(4, 3, 7, 1) = 1; note(1, 1, 9, 1) = 1
        round(3); bribe(1, 0) = 11
        """;
    private static final String AFTER = """
        count(5) = 2; of(0, 0) = 7; about(0, 4) = 1; undo() = 3; of(1, 1) = 19; undo() = 0; undo() = NO
        """;

    /** The text's fault is at the sign #, which is no part of it. */
    private static void fault(String sentence, String which, String told) {
        int place = told.indexOf('#');
        String text = told.substring(0, place) + told.substring(place + 1);
        E.edge(7, sentence, which + ": " + told, BEFORE + "text " + text + "\nkeep; read() = " + (-10 - place)
            + "; same; count(6) = " + text.length() + "\n" + AFTER);
    }

    private static void right(String sentence, String which, String text, int items, String rows) {
        E.edge(7, sentence, which + ": " + text, "text " + text + "\nread() = " + items + "\n" + rows);
    }

    private static void items() {
        right(ITEMS, "the least text", "village;", 1, "count(0) = 0; count(1) = 0");
        right("how many ITEMS", "each sort is one", "village;man 1 9;dog 0 1 2 0;bribe 0 0;", 4, "of(0, 1) = 7");
        String most = "village;" + "man0 4;".repeat(4) + "dog0 1 1 0;".repeat(7)
            + "bribe0 0;bribe0 1;bribe0 2;bribe0 3;";
        right("how many ITEMS", "as many as find room", most, 16, "count(6) = 149; count(0) = 4; count(1) = 7; count(3) = 4");
        right(ITEMS, "150 bytes, the last one counts too", "village;man 1 2;" + " ".repeat(127) + "man0 3;", 3,
            "count(6) = 150; of(1, 1) = 3");
        fault(ITEMS, "no ; between two", "village #man 1 2;");
        fault(ITEMS, "no ; between two", "village;man 1 2#dog 0 1 1 0;");
        fault(ITEMS, "no ; at the end", "village;man 1 2#");
        fault(ITEMS, "a ; that ends none", "village;#;");
        fault(ITEMS, "a ; that ends none, first", "#;village;");
        fault(ITEMS, "a number too many", "village;man 1 2 #3;");
        fault(ITEMS, "a number too many", "village;dog 0 1 1 0 #0;");
        fault(ITEMS, "a number too many", "village;man 1 9;dog 0 1 1 0;bribe 0 0 #0;");
        fault(ITEMS, "a number too few", "village;man 1#;");
        fault(ITEMS, "a number too few", "village;dog 0 1 1#;");
        fault(ITEMS, "a number too few", "village;man 1 9;dog 0 1 1 0;bribe 0#;");
        fault(ITEMS, "no number at all", "village;man#;");
        fault(ITEMS, "a number for none", "village #1;");
    }

    private static void tokens() {
        right(BLANKS, "none that is not needed", "village;man1 2;dog0 1 2 3;bribe0 0;", 4, "of(0, 1) = 0; about(0, 3) = 3");
        right(BLANKS, "many, at every place", "   village   ;   man   1   2   ;   dog   0   1   2   3   ;   ", 3, "of(0, 1) = 2");
        right(BLANKS, "all that find room behind", "village;" + " ".repeat(142), 1, "count(6) = 150");
        right(BLANKS, "all that find room ahead", " ".repeat(142) + "village;", 1, "count(6) = 150");
        fault(BLANKS, "31 is none", "village;#\u001f");
        fault(BLANKS, "33 is none", "village;#!");
        fault(BLANKS, "a tab is none", "village;man#\t1 2;");
        fault(BLANKS, "none inside a word", "village;#ma n 1 2;");
        fault(BLANKS, "one inside a number makes two", "village;man 1 0 #2;");
        right(NEEDED, "none between a word and a number", "village;man9 30;", 2, "of(0, 0) = 9; of(0, 1) = 30");
        fault(NEEDED, "needed between two words", "#villageman;");
        fault(NEEDED, "needed between two words", "village;#mandog;");
        fault(NEEDED, "needed between two numbers, one number then", "village;man #12;");
        fault(NEEDED, "needed between two numbers, one number then", "village;man 09#;");
        right(FIGURES, "one", "village;man 9 9;", 2, "of(0, 0) = 9; of(0, 1) = 9");
        right(FIGURES, "two, the first 0", "village;man 09 09;dog 00 01 09 03;", 3,
            "of(0, 0) = 9; of(0, 1) = 9; about(0, 0) = 0; about(0, 1) = 1; about(0, 2) = 9; about(0, 3) = 3");
        right(FIGURES, "two that are 0", "village;man 00 00;", 2, "of(0, 0) = 0; of(0, 1) = 0");
        right(FIGURES, "two", "village;man 0 10;man 0 29;", 3, "of(0, 1) = 10; of(1, 1) = 29");
        fault(THREE, "three", "village;man 0 #100;");
        fault(THREE, "three that would be small", "village;man #000 0;");
        fault(THREE, "three that would be right", "village;man 0 #030;");
        fault(THREE, "many", "village;man 0 #00000000000000000000000000000001;");
        fault(THREE, "in a dog", "village;dog 0 1 #001 0;");
        fault(THREE, "in a bribe", "village;man 0 9;dog 0 1 1 0;bribe 0 #000;");
        fault(THREE, "where no number may stand", "village;#123;");
        fault(THREE, "at the text's end", "village;man 0 #123");
        fault(KIND, "a word for it", "village;dog #plain 1 1 0;");
        fault(KIND, "the byte below a", "village;#`man 1 2;");
        fault(KIND, "the byte above z", "village;#{man 1 2;");
        fault(KIND, "the byte below a behind letters", "village;#ma`n 1 2;");
        fault(KIND, "a great letter", "#Village;");
        fault(KIND, "a great letter inside", "#villagE;");
        fault(FIGURES, "the byte below 0", "village;man #/ 2;");
        fault(FIGURES, "the byte above 9", "village;man #: 2;");
        fault(FIGURES, "a sign", "village;man #-1 2;");
        fault(FIGURES, "a point", "village;man 1#.0 2;");
        fault(NO_TOKEN, "where ; should stand", "village#:");
        fault(NO_TOKEN, "where ; should stand", "village;man 1 2#,");
        fault(NO_TOKEN, "where ; should stand", "village;dog 0 1 1 0 #.;");
        fault(NO_TOKEN, "where ; should stand", "village;man 1 9;dog 0 1 1 0;bribe 0 0#<");
        fault(NO_TOKEN, "where a number should stand", "village;man #+ 2;");
        fault(THREE, "where ; should stand", "village;man 1 2 #345");
        everyByte();
    }

    /** Each byte where an ITEM may begin: a blank alone may stand there. */
    private static void everyByte() {
        for (int from = 0; from < 128; from += 32) {
            StringBuilder rows = new StringBuilder();
            for (int b = from; b < from + 32; b++) {
                rows.append("text village;\ntype(").append(b).append("); read() = ").append(b == 32 ? 1 : -18).append('\n');
            }
            E.edge(7, NO_TOKEN, "each from " + from + " on", rows.toString());
        }
    }

    private static void words() {
        fault(NO_WORD, "first of all", "#town;");
        fault(NO_WORD, "one letter too few", "#villag;");
        fault(NO_WORD, "one letter too many", "#villages;");
        fault(NO_WORD, "one letter too few", "village;#ma 1 2;");
        fault(NO_WORD, "one letter too many", "village;#mann 1 2;");
        fault(NO_WORD, "one letter too few", "village;#do 0 1 1 0;");
        fault(NO_WORD, "one letter too many", "village;#dogs 0 1 1 0;");
        fault(NO_WORD, "one letter too few", "village;man 1 9;dog 0 1 1 0;#brib 0 0;");
        fault(NO_WORD, "one letter too many", "village;man 1 9;dog 0 1 1 0;#bribes 0 0;");
        fault(NO_WORD, "the first letter is another", "#pillage;");
        fault(NO_WORD, "the first letter is another", "village;#can 1 2;");
        fault(NO_WORD, "the first letter is another", "village;#hog 0 1 1 0;");
        fault(NO_WORD, "the first letter is another", "village;man 1 9;dog 0 1 1 0;#tribe 0 0;");
        fault(NO_WORD, "the last letter is another", "#villaga;");
        fault(NO_WORD, "the last letter is another", "village;#map 1 2;");
        fault(NO_WORD, "the last letter is another", "village;#dot 0 1 1 0;");
        fault(NO_WORD, "one letter too many, the first and the last there are", "village;#mana 1 2;");
        fault(NO_WORD, "one letter too many, the first and the last there are", "village;#manz 1 2;");
        fault(NO_WORD, "one letter", "village;#m");
        fault(NO_WORD, "one at the text's end that might have gone on", "  #villa");
        fault(NO_WORD, "150 letters", "#" + "v".repeat(150));
        fault(NO_WORD, "one where a number should stand", "village;man 1 #two;");
        fault(FAULT, "a right word where a number should stand", "village;man 1 #man;");
        fault(FAULT, "a right word where ; should stand", "village;man 1 2 #man 1 2;");
        fault(FAULT, "the first of two faults", "village;man #10 31;");
        fault(FAULT, "blanks ahead of it are no part of it", "village;   #x");
        fault(FAULT, "at the first place", "#x");
        fault(FAULT, "at the last place", "village;" + " ".repeat(141) + "#x");
        fault(AHEAD, "village again", "village;#village;");
        fault(AHEAD, "village again, behind others", "village;man 1 2;#village;");
        fault(AHEAD, "village again at once", "village #village;");
        fault(AHEAD, "a man ahead", "#man 1 2;village;");
        fault(AHEAD, "a dog ahead", "#dog 0 1 1 0;village;");
        fault(AHEAD, "a bribe ahead", "#bribe 0 0;village;");
        fault(AHEAD, "a number ahead", "#1 village;");
        fault(AHEAD, "a byte that is none ahead", "#\u0000village;");
        String four = "village;" + "man 1 2;".repeat(4);
        String seven = "village;" + "dog 0 1 1 0;".repeat(7);
        right(PLACES, "a 4th man", four, 5, "count(0) = 4; of(3, 1) = 2");
        right(PLACES, "a 7th dog", seven, 8, "count(1) = 7; about(6, 2) = 1");
        fault(PLACES, "a 5th man", four + "#man 1 2;");
        fault(PLACES, "a 5th man at its word, not at its number", four + " #man 10 2;");
        fault(PLACES, "a 5th man, the text ending behind it", four + "#man");
        fault(PLACES, "an 8th dog", seven + "#dog 0 1 1 0;");
        fault(PLACES, "an 8th dog at its word, not at its number", seven + " #dog 6 1 1 0;");
        fault(PLACES, "an 8th dog, the text ending behind it", seven + "#dog");
        E.edge(7, PLACES, "those of the village ahead do not count",
            Edges.FOUR + Edges.SEVEN + "text village;man 1 2;dog 0 1 1 0;\nread() = 3; count(0) = 1; count(1) = 1");
    }

    private static void numbers() {
        right(NUMBER, "the least BOOTS, HAM", "village;man 0 0;", 2, "of(0, 0) = 0; of(0, 1) = 0");
        right(NUMBER, "the greatest BOOTS, HAM", "village;man 9 30;", 2, "of(0, 0) = 9; of(0, 1) = 30");
        fault(NUMBER, "BOOTS just above", "village;man #10 0;");
        fault(NUMBER, "HAM just above", "village;man 0 #31;");
        fault(NUMBER, "BOOTS far above", "village;man #99 0;");
        fault(NUMBER, "HAM far above", "village;man 0 #99;");
        right(NUMBER, "the least KIND, WEIGHT, HUNGER, FAVOURITE", "village;dog 0 1 1 0;", 2,
            "about(0, 0) = 0; about(0, 1) = 1; about(0, 2) = 1; about(0, 3) = 0");
        right(NUMBER, "the greatest KIND, WEIGHT, HUNGER, FAVOURITE", "village;dog 5 5 9 3;", 2,
            "about(0, 0) = 5; about(0, 1) = 5; about(0, 2) = 9; about(0, 3) = 3");
        fault(NUMBER, "KIND just above", "village;dog #6 1 1 0;");
        fault(NUMBER, "WEIGHT just below", "village;dog 0 #0 1 0;");
        fault(NUMBER, "WEIGHT just above", "village;dog 0 #6 1 0;");
        fault(NUMBER, "HUNGER just below", "village;dog 0 1 #0 0;");
        fault(NUMBER, "HUNGER just above", "village;dog 0 1 #10 0;");
        fault(NUMBER, "FAVOURITE just above", "village;dog 0 1 1 #4;");
    }

    private static void bribes() {
        String two = "village;man 0 9;man 0 5;dog 0 1 4 0;dog 0 1 5 0;";
        right(NOT_THERE, "the first of them", two + "bribe 0 0;", 6, "of(0, 1) = 5; about(0, 4) = 1; about(1, 4) = 0");
        right(NOT_THERE, "the last of them", two + "bribe 1 1;", 6, "of(1, 1) = 0; about(0, 4) = 0; about(1, 4) = 1");
        fault(NOT_THERE, "a CANDIDATE just above", two + "bribe #2 0;");
        fault(NOT_THERE, "a CANDIDATE that comes behind it", "village;dog 0 1 1 0;bribe #0 0;man 0 9;");
        fault(NOT_THERE, "no CANDIDATE at all", "village;bribe #0 0;");
        fault(NOT_THERE, "a DOG just above", two + "bribe 0 #2;");
        fault(NOT_THERE, "a DOG that comes behind it", "village;man 0 9;bribe 0 #0;dog 0 1 1 0;");
        fault(NOT_THERE, "no DOG at all", "village;man 0 9;bribe 0 #0;");
        fault(NOT_THERE, "both: the CANDIDATE is the first", "village;bribe #9 9;");
        right(MAY_NOT, "as hungry as there is HAM", "village;man 0 9;dog 0 1 9 0;bribe 0 0;", 4, "of(0, 1) = 0; count(3) = 1");
        fault(MAY_NOT, "hungrier by 1", "village;man 0 8;dog 0 1 9 0;bribe 0 #0;");
        fault(MAY_NOT, "no HAM", "village;man 0 0;dog 0 1 1 0;bribe 0 #0;");
        right(MAY_NOT, "as hungry as what a bribe left", two + "bribe 0 0;bribe 0 1;", 7, "of(0, 1) = 0; count(3) = 2");
        fault(MAY_NOT, "hungrier than what a bribe left", "village;man 0 8;dog 0 1 4 0;dog 0 1 5 0;bribe 0 0;bribe 0 #1;");
        fault(MAY_NOT, "ASLEEP by its own bribe", "village;man 0 9;dog 0 1 4 0;bribe 0 0;bribe 0 #0;");
        fault(MAY_NOT, "ASLEEP by another's bribe", "village;man 0 9;man 0 9;dog 0 1 4 0;bribe 0 0;bribe 1 #0;");
        fault(MAY_NOT, "at the DOG, though ; is missing too", "village;man 0 0;dog 0 1 1 0;bribe 0 #0 dog");
        E.edge(7, NOT_THERE, "those of the village ahead do not count", Edges.FOUR + Edges.SEVEN
            + "text village;bribe 0 0;\nread() = -24\ntext village;man 0 9;bribe 0 0;\nread() = -34");
        E.edge(7, MAY_NOT, "who slept in the village ahead does not count",
            "man(0, 9); dog(0, 1, 9, 0); bribe(0, 0)\ntext village;man 0 9;dog 0 1 9 0;bribe 0 0;\nread() = 4; of(0, 1) = 0");
    }

    private static void early() {
        fault(EARLY, "an empty one", "#");
        fault(EARLY, "one blank", " #");
        fault(EARLY, "150 blanks", " ".repeat(150) + "#");
        fault(EARLY, "behind village", "village#");
        fault(EARLY, "behind village and blanks", "village  #");
        fault(EARLY, "behind man", "village;man#");
        fault(EARLY, "behind BOOTS", "village;man 1#");
        fault(EARLY, "behind HAM", "village;man 1 2#");
        fault(EARLY, "behind dog", "village;dog#");
        fault(EARLY, "behind KIND", "village;dog 0#");
        fault(EARLY, "behind WEIGHT", "village;dog 0 1#");
        fault(EARLY, "behind HUNGER", "village;dog 0 1 1#");
        fault(EARLY, "behind FAVOURITE", "village;dog 0 1 1 0#");
        fault(EARLY, "behind bribe", "village;man 1 9;dog 0 1 1 0;bribe#");
        fault(EARLY, "behind a CANDIDATE", "village;man 1 9;dog 0 1 1 0;bribe 0#");
        fault(EARLY, "behind a DOG", "village;man 1 9;dog 0 1 1 0;bribe 0 0#");
        fault(EARLY, "150 bytes, the greatest FAULT", "village;" + " ".repeat(139) + "man#");
        right(EARLY, "behind ; it may end", "village;man 1 2;", 2, "count(0) = 1");
    }

    private static void whatIsTaken() {
        String all = "village;man 1 9;dog 2 3 4 0;dog 0 1 5 0;bribe 0 1;";
        E.edge(7, TAKES, "CANDIDATES, DOGS, who is ASLEEP", BEFORE + "text " + all + """

            read() = 5; count(0) = 1; count(1) = 2; count(3) = 1; of(0, 0) = 1; of(0, 1) = 4; of(1, 0) = BAD
            about(0, 0) = 2; about(0, 1) = 3; about(0, 2) = 4; about(0, 3) = 0; about(0, 4) = 0; about(1, 4) = 1
            """);
        E.edge(7, "(ROUND, HOLES 0, NOTES none; nothing to undo)", "all were more", BEFORE + "text " + all + """

            read() = 5; count(2) = 0; of(0, 2) = 0; count(4) = 0; is(1) = 63; forget() = 0; count(5) = 0; undo() = NO
            """);
        E.edge(7, "(ROUND, HOLES 0, NOTES none; nothing to undo)", "the ROUND was the last one", """
            man(0, 0); rounds 999
            text village;
            read() = 1; count(2) = 0; count(0) = 0; undo() = NO
            """);
        E.edge(7, TAKES, "IMAGES stay", BEFORE + "image(0); image(1)\ntext " + all + """

            keep; read() = 5; from(1) = 1; same; read() = 5; from(0) = 1; same
            """ + AFTER);
        E.edge(7, TAKES, "THE TEXT stays, and may be read again",
            "text " + all + "\nread() = 5; count(6) = 50; keep; read() = 5; same; count(6) = 50; clear() = 50");
        E.edge(7, TAKES, "THE FRACTION stays", """
            man(0, 0); dog(0, 1, 1, 3); strays(0, 3) = 1
            text village;
            read() = 1; part(0) = 7; part(1) = 10
            """);
        E.edge(7, TAKES, "STATUS stays, of each sort", Edges.FOUR + """
            man(10, 0) = BAD; undo() = NO; man(0, 0) = FULL
            text village;
            read() = 1; status(0) = 1; status(1) = 1; status(2) = 1
            """);
        E.edge(7, TAKES, "all places are free behind it", Edges.FOUR + Edges.SEVEN + "note(0, 0, 0, 0); ".repeat(6) + """

            text village;dog 0 1 1 0;
            read() = 2; man(0, 0) = 0; man(0, 0) = 1; man(0, 0) = 2; man(0, 0) = 3; man(0, 0) = FULL
            dog(0, 1, 1, 0) = 1; dog(0, 1, 1, 0) = 2; note(0, 0, 0, 0) = 1
            """);
        E.edge(7, TAKES, "what an IMAGE keeps is not what was read into later", """
            text village;man 1 2;
            read() = 2; image(0) = 1
            text village;man 3 4;man 5 6;
            read() = 3; of(0, 0) = 3; from(0) = 1; count(0) = 1; of(0, 0) = 1; of(0, 1) = 2
            """);
        E.edge(7, STAYS, "a FAULT is no refusal of STATUS (only what is told as BAD, NO, FULL is)",
            "read() = -10; status(0) = 0; status(1) = 0; status(2) = 0");
        E.edge(7, STAYS, "the last byte of many is the FAULT", BEFORE + "text village;man 1 9;dog 0 1 1 0;bribe 0 0;x\n"
            + "keep; read() = -48; same\n" + AFTER);
        E.edge(7, STAYS, "behind a FAULT a right text is read as ever", """
            text village;man 1 2;man 3 4;dog 0 1 1 0;bribe 0 0;bribe 0 0;
            read() = -64; count(0) = 0
            text village;man 5 6;
            read() = 2; count(0) = 1; count(1) = 0; count(3) = 0; of(0, 0) = 5
            """);
    }

    public static void main(String[] args) {
        items();
        tokens();
        words();
        numbers();
        bribes();
        early();
        whatIsTaken();
        E.end(7, 7);
    }
}
