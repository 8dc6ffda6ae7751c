/** Promises 1 to 7: a new object, candidates, dogs, the text and how it is read. */
public final class VillageTest {
    private static final Check CHECK = new Check("VillageTest");

    private static void aNewObject() {
        CHECK.promise(1, "a new object");
        DogsPostman x = new DogsPostman();
        for (int what = 0; what <= 6; what++) {
            CHECK.due("count(" + what + ")", x.count(what), 0);
        }
        CHECK.due("part(0)", x.part(0), 0);
        CHECK.due("part(1)", x.part(1), 1);
        CHECK.due("of(0, 0)", x.of(0, 0), -2);
        CHECK.due("about(0, 0)", x.about(0, 0), -2);
        CHECK.due("from(0)", x.from(0), -3);
        CHECK.due("from(1)", x.from(1), -3);
        CHECK.due("undo()", x.undo(), -3);
        CHECK.due("status(0)", x.status(0), 2);
        CHECK.due("status(1)", x.status(1), 3);
        CHECK.due("status(2)", x.status(2), 0);
        DogsPostman fresh = new DogsPostman();
        for (int what = 0; what <= 2; what++) {
            CHECK.due("status(" + what + ") of another", fresh.status(what), 0);
        }
    }

    private static void village() {
        CHECK.promise(2, "village");
        DogsPostman x = new DogsPostman();
        CHECK.due("village() of nothing", x.village(), 0);
        x.man(3, 9);
        x.man(4, 9);
        x.dog(2, 3, 2, 1);
        x.dog(0, 1, 2, 1);
        x.dog(0, 1, 2, 1);
        x.bribe(0, 0);
        x.round(2);
        x.bribe(0, 1);
        x.note(0, 1, 2, 1);
        x.type(';');
        x.strays(1, 5);
        long above = x.part(0);
        x.image(1);
        x.man(-1, 0);
        CHECK.due("village()", x.village(), 3);
        for (int what = 0; what <= 5; what++) {
            CHECK.due("count(" + what + ")", x.count(what), 0);
        }
        CHECK.due("the text stays", x.count(6), 1);
        CHECK.due("the fraction stays", x.part(0), above);
        CHECK.due("status stays", x.status(0), 1);
        CHECK.due("the image stays", x.from(1), 1);
        CHECK.due("and has its dogs", x.count(1), 3);
        CHECK.due("and its round", x.count(2), 2);
        CHECK.due("and its notes", x.count(4), 1);
        x.village();
        x.man(0, 1);
        CHECK.due("holes are none again", x.of(0, 2), 0);
    }

    private static void man() {
        CHECK.promise(3, "man");
        DogsPostman x = new DogsPostman();
        CHECK.due("man(0, 0)", x.man(0, 0), 0);
        CHECK.due("man(9, 30)", x.man(9, 30), 1);
        CHECK.due("man(-1, 0)", x.man(-1, 0), -2);
        CHECK.due("man(10, 0)", x.man(10, 0), -2);
        CHECK.due("man(0, -1)", x.man(0, -1), -2);
        CHECK.due("man(0, 31)", x.man(0, 31), -2);
        CHECK.due("man(MIN, MAX)", x.man(Integer.MIN_VALUE, Integer.MAX_VALUE), -2);
        CHECK.due("man(5, 5)", x.man(5, 5), 2);
        CHECK.due("man(6, 6)", x.man(6, 6), 3);
        CHECK.due("a fifth", x.man(0, 0), -4);
        CHECK.due("a fifth, wrong: BAD is first", x.man(10, 0), -2);
        CHECK.due("count(0)", x.count(0), 4);
        CHECK.due("of(1, 0)", x.of(1, 0), 9);
        CHECK.due("of(1, 1)", x.of(1, 1), 30);
        CHECK.due("of(3, 0)", x.of(3, 0), 6);
        CHECK.due("status(0)", x.status(0), 6);
        CHECK.due("status(2)", x.status(2), 1);
    }

    private static void dog() {
        CHECK.promise(4, "dog");
        DogsPostman x = new DogsPostman();
        CHECK.due("dog(0, 1, 1, 0)", x.dog(0, 1, 1, 0), 0);
        CHECK.due("dog(5, 5, 9, 3), its favourite not there", x.dog(5, 5, 9, 3), 1);
        int[][] wrong = {{-1, 1, 1, 0}, {6, 1, 1, 0}, {0, 0, 1, 0}, {0, 6, 1, 0}, {0, 1, 0, 0}, {0, 1, 10, 0},
            {0, 1, 1, -1}, {0, 1, 1, 4}, {Integer.MIN_VALUE, 1, 1, 0}, {0, 1, 1, Integer.MAX_VALUE}};
        for (int[] w : wrong) {
            CHECK.due("dog" + java.util.Arrays.toString(w), x.dog(w[0], w[1], w[2], w[3]), -2);
        }
        for (int k = 2; k < 7; k++) {
            CHECK.due("dog " + k, x.dog(k - 2, k - 1, k, k % 4), k);
        }
        CHECK.due("an eighth", x.dog(0, 1, 1, 0), -4);
        CHECK.due("an eighth, wrong: BAD is first", x.dog(0, 1, 1, 9), -2);
        CHECK.due("count(1)", x.count(1), 7);
        CHECK.due("about(1, 0)", x.about(1, 0), 5);
        CHECK.due("about(1, 1)", x.about(1, 1), 5);
        CHECK.due("about(1, 2)", x.about(1, 2), 9);
        CHECK.due("about(1, 3)", x.about(1, 3), 3);
        CHECK.due("status(0)", x.status(0), wrong.length + 1);
        CHECK.due("status(2)", x.status(2), 1);
    }

    private static void typeAndClear() {
        CHECK.promise(5, "type");
        DogsPostman x = new DogsPostman();
        CHECK.due("type(0)", x.type(0), 1);
        CHECK.due("type(127)", x.type(127), 2);
        CHECK.due("type(-1)", x.type(-1), -2);
        CHECK.due("type(128)", x.type(128), -2);
        CHECK.due("count(6)", x.count(6), 2);
        for (int i = 3; i <= 150; i++) {
            CHECK.due("type " + i, x.type('a'), i);
        }
        CHECK.due("byte 151", x.type('a'), -4);
        CHECK.due("byte 151, wrong: BAD is first", x.type(128), -2);
        CHECK.due("status(0)", x.status(0), 3);
        CHECK.due("status(2)", x.status(2), 1);
        CHECK.promise(6, "clear");
        CHECK.due("clear()", x.clear(), 150);
        CHECK.due("clear() again", x.clear(), 0);
        CHECK.due("count(6)", x.count(6), 0);
        CHECK.due("type(59)", x.type(59), 1);
    }

    private static void readRight() {
        CHECK.promise(7, "read");
        DogsPostman x = new DogsPostman();
        x.man(1, 1);
        x.dog(0, 1, 1, 1);
        x.bribe(0, 0);
        x.round(3);
        x.round(3);
        x.note(0, 0, 0, 0);
        x.strays(0, 4);
        long above = x.part(0);
        long below = x.part(1);
        x.image(0);
        x.undo();
        x.undo();
        x.undo();
        x.undo();
        String text = "  village ;man3 09;man 0 30 ; dog 2 5 09 3;dog5 1 1 0;bribe 1 0;bribe 0 1;  ";
        CHECK.due("read()", Check.readText(x, text), 7);
        CHECK.due("the text stays", x.count(6), text.length());
        CHECK.due("candidates", x.count(0), 2);
        CHECK.due("dogs", x.count(1), 2);
        CHECK.due("the round", x.count(2), 0);
        CHECK.due("asleep", x.count(3), 2);
        CHECK.due("notes", x.count(4), 0);
        CHECK.due("undo", x.count(5), 0);
        CHECK.due("boots", x.of(0, 0), 3);
        CHECK.due("ham that is left", x.of(0, 1), 8);
        CHECK.due("ham that is left", x.of(1, 1), 21);
        CHECK.due("holes", x.of(0, 2), 0);
        CHECK.due("kind", x.about(0, 0), 2);
        CHECK.due("weight", x.about(0, 1), 5);
        CHECK.due("hunger", x.about(0, 2), 9);
        CHECK.due("favourite", x.about(0, 3), 3);
        CHECK.due("the fraction stays, above", x.part(0), above);
        CHECK.due("the fraction stays, below", x.part(1), below);
        CHECK.due("status stays", x.status(1), 1);
        CHECK.due("images stay", x.from(0), 1);
        CHECK.due("the image's dogs", x.count(1), 1);
        CHECK.due("the image's undo", x.count(5), 3);
        CHECK.due("village alone", Check.readText(x, "village;"), 1);
        CHECK.due("no candidates", x.count(0), 0);
        CHECK.due("read again", x.read(), 1);
    }

    private static void readMost() {
        DogsPostman x = new DogsPostman();
        StringBuilder text = new StringBuilder("village;");
        for (int c = 0; c < 4; c++) {
            text.append("man 1 30;");
        }
        for (int k = 0; k < 7; k++) {
            text.append("dog 0 1 9 0;");
        }
        CHECK.due("all there may be", Check.readText(x, text.toString()), 12);
        CHECK.due("a fifth at its word", Check.readText(x, "village;man 1 1;man 1 1;man 1 1;man 1 1; man 1 1;"),
            -10 - 41);
        CHECK.due("an eighth at its word", Check.readText(x, text + " dog"), -10 - text.length() - 1);
        text.append("bribe 0 0;");
        while (text.length() < 150) {
            text.append(' ');
        }
        CHECK.due("150 bytes", Check.readText(x, text.toString()), 13);
    }

    /** Texts with a ! put in at the place of the fault. */
    private static final String[] FAULTS = {
        "!", "  !", "village!", "village !", "!villa", "!villages;", "!Village;", "!man 1 1;",
        "!;", "!3;", "village;!;", "village;!village;", "village;!5;", "village !1;",
        "village;!manx 1 1;", "village;!manz 1 1;", "village;!aman 1 1;", "village;dog0!x 1 1 0;", "village;man!", "village;man 0!", "village;man 0 0!", "village;man !10 0;",
        "village;man 9 !31;", "village;man 9 !100;", "village;man !000 0;", "village;man 0 0 !0;", "village;man 0 !;",
        "village;man 0 0;!-", "village;man 0 0;!;", "village;man !a 0;", "village;man 0 0 !man 0 0;",
        "village;dog !6 1 1 0;", "village;dog 0 !0 1 0;", "village;dog 0 !6 1 0;", "village;dog 0 1 !0 0;",
        "village;dog 0 1 !10 0;", "village;dog 0 1 1 !4;", "village;dog 0 1 1!;", "village;dog 0 1 1 0!",
        "village;dog !plain 1 1 0;", "village;bribe !0 0;", "village;man 1 9;bribe 0 !0;",
        "village;man 1 9;dog 0 1 5 0;bribe !1 0;", "village;man 1 9;dog 0 1 5 0;bribe 0 !1;",
        "village;man 1 9;dog 0 1 4 0;bribe 0 0;bribe 0 !0;", "village;man 1 8;dog 0 1 9 0;bribe 0 !0;",
        "village;man 1 9;dog 0 1 5 0;dog 0 1 5 0;bribe 0 0;bribe 0 !1;", "village;man 1 9;dog 0 1 5 0;bribe 0 0!",
        "village;!\t", "village;man 1 1;!\n", "village;man 1 9;dog 0 1 9 0;bribe 0 00 !0;",
        "village; !ma", "village;man 1 1;  !dogs", "village;man 1!,1;", "village;!MAN 1 1;", "!\u007f", "!\u0000village;",
    };

    private static void readWrong() {
        for (String told : FAULTS) {
            int place = told.indexOf('!');
            String text = told.substring(0, place) + told.substring(place + 1);
            DogsPostman x = new DogsPostman();
            x.man(4, 4);
            x.dog(3, 2, 2, 0);
            x.note(0, 0, 3, 1);
            x.round(2);
            x.bribe(0, 0);
            CHECK.due("read() of \"" + text + "\"", Check.readText(x, text), -10 - place);
            CHECK.due("candidates stay", x.count(0), 1);
            CHECK.due("dogs stay", x.count(1), 1);
            CHECK.due("the round stays", x.count(2), 2);
            CHECK.due("who is asleep stays", x.count(3), 1);
            CHECK.due("notes stay", x.count(4), 1);
            CHECK.due("undo stays", x.count(5), 2);
            CHECK.due("the text stays", x.count(6), text.length());
            CHECK.due("ham stays", x.of(0, 1), 2);
            CHECK.due("a fault is no refusal, BAD", x.status(0), 0);
            CHECK.due("a fault is no refusal, NO", x.status(1), 0);
            CHECK.due("a fault is no refusal, FULL", x.status(2), 0);
        }
    }

    public static void main(String[] args) {
        aNewObject();
        village();
        man();
        dog();
        typeAndClear();
        readRight();
        readMost();
        readWrong();
        CHECK.end();
    }
}
