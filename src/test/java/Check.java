/** Counts answers that are not due; each test makes one and ends with it. */
final class Check {
    private final String test;
    private int wrong = 0;
    private int asked = 0;
    private String about = "";

    Check(String test) {
        this.test = test;
    }

    void promise(int number, String what) {
        about = "promise " + number + ", " + what;
    }

    void due(String call, long got, long want) {
        asked++;
        if (got != want) {
            wrong++;
            if (wrong <= 50) {
                System.out.println(test + ": " + about + ": " + call + " answered " + got + ", due is " + want);
            }
        }
    }

    void isTrue(String fact, boolean holds) {
        due(fact, holds ? 1 : 0, 1);
    }

    int wrongs() {
        return wrong;
    }

    void end() {
        System.out.println(test + ": " + asked + " answers, " + wrong + " wrong");
        if (wrong != 0 || asked == 0) {
            System.exit(1);
        }
    }

    /** Types a text behind what is there. */
    static void typeAll(DogsPostman x, String text) {
        for (int i = 0; i < text.length(); i++) {
            x.type(text.charAt(i));
        }
    }

    /** Clears, types, reads. */
    static int readText(DogsPostman x, String text) {
        x.clear();
        typeAll(x, text);
        return x.read();
    }
}
