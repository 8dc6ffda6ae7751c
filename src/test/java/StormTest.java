import java.util.Random;

/** Long runs of calls, right and wrong ones, each answered by the program and by the model. */
public final class StormTest {
    private static final int RUNS = 600, CALLS = 512;
    private static final String[] PIECES = {
        "village;", "village ;", " village;", "man 3 9;", "man 0 30;", "man 9 0;", "man10 5;", "man 7 7 ;", "man 3 31;",
        "dog 0 2 3 0;", "dog 1 5 1 3;", "dog 2 05 9 1;", "dog 3 1 2 2;", "dog 4 4 4 0;", "dog 5 3 2 1;", "dog 6 1 1 1;",
        "dog 0 0 1 1;", "dog 0 1 10 1;", "dog 0 1 1 4;", "bribe 0 0;", "bribe 1 1;", "bribe 0 2;", "bribe 3 6;", ";",
        "  ", "mann 1 1;", "man 1 001;", "man 1;", "village", "man", "M", "-", "dog3 1 2 2;",
    };

    private final Random random;
    private final DogsPostman x = new DogsPostman();
    private final Model model = new Model();
    private String call = "";

    private StormTest(long seed) {
        random = new Random(seed);
    }

    /** Mostly from low to high, sometimes beside it, seldom far away. */
    private int any(int low, int high) {
        int dice = random.nextInt(60);
        if (dice == 0) {
            return low - 1;
        }
        if (dice == 1) {
            return high + 1;
        }
        if (dice == 2) {
            int[] far = {Integer.MIN_VALUE, Integer.MAX_VALUE, -1, 1 << 30, -(1 << 30), random.nextInt()};
            return far[random.nextInt(far.length)];
        }
        return low + random.nextInt(high - low + 1);
    }

    private int c() {
        return any(0, Math.max(0, model.now.men().size() - 1));
    }

    private int k() {
        return any(0, Math.max(0, model.now.dogs().size() - 1));
    }

    private long[] both(String name, long got, long want, int... arguments) {
        call = name + java.util.Arrays.toString(arguments);
        return new long[] {got, want};
    }

    private long[] building() {
        switch (random.nextInt(4)) {
            case 0: {
                int b = any(0, 9), h = any(0, 30);
                return both("man", x.man(b, h), model.man(b, h), b, h);
            }
            case 1: {
                if (random.nextInt(20) > 0) {
                    return typing();
                }
                return both("village", x.village(), model.village());
            }
            default: {
                int kind = any(0, 5), w = any(1, 5), h = any(1, 9), f = any(0, 3);
                return both("dog", x.dog(kind, w, h, f), model.dog(kind, w, h, f), kind, w, h, f);
            }
        }
    }

    private long[] typing() {
        int dice = random.nextInt(12);
        if (dice == 0) {
            return both("clear", x.clear(), model.clear());
        }
        if (dice == 1) {
            return both("read", x.read(), model.read());
        }
        int b = random.nextInt(4) == 0 ? any(0, 127) : "village;man dog bribe 0123456789".charAt(random.nextInt(32));
        return both("type", x.type(b), model.type(b), b);
    }

    private long[] going() {
        switch (random.nextInt(9)) {
            case 0: {
                int n = any(1, 30);
                return both("round", x.round(n), model.round(n), n);
            }
            case 1: {
                return both("round", x.round(1), model.round(1), 1);
            }
            case 2: {
                return both("undo", x.undo(), model.undo());
            }
            case 3: {
                int c = c(), what = any(0, 2);
                return both("of", x.of(c, what), model.of(c, what), c, what);
            }
            case 4: {
                int k = k(), what = any(0, 6);
                return both("about", x.about(k, what), model.about(k, what), k, what);
            }
            case 5: {
                int i = any(0, 1);
                return both("image", x.image(i), model.image(i), i);
            }
            case 6: {
                int i = any(0, 1);
                return both("from", x.from(i), model.from(i), i);
            }
            default: {
                int c = c(), k = k();
                return both("bribe", x.bribe(c, k), model.bribe(c, k), c, k);
            }
        }
    }

    private long[] asking() {
        int c = c();
        switch (random.nextInt(9)) {
            case 0: {
                int what = any(0, 1);
                return both("bitten", x.bitten(c, what), model.bitten(c, what), c, what);
            }
            case 1: {
                int m = any(0, 30);
                return both("then", x.then(c, m), model.then(c, m), c, m);
            }
            case 2: {
                int m = any(0, 30), what = any(0, 1);
                return both("won", x.won(m, what), model.won(m, what), m, what);
            }
            case 3:
                return both("letters", x.letters(), model.letters());
            case 4: {
                int what = any(0, 1);
                return both("bribes", x.bribes(c, what), model.bribes(c, what), c, what);
            }
            case 5:
                return both("still", x.still(c), model.still(c), c);
            case 6: {
                int what = any(0, 1);
                return both("first", x.first(c, what), model.first(c, what), c, what);
            }
            default: {
                int r = any(0, 99), what = any(0, 2);
                int wide = random.nextBoolean() ? any(0, 200) : any(0, 25);
                return both("slept", x.slept(r, c, wide, what), model.slept(r, c, wide, what), r, c, wide, what);
            }
        }
    }

    private long[] guessing() {
        switch (random.nextInt(9)) {
            case 0: case 1: {
                int k = k(), f = any(0, 1), b = any(0, 9), bit = any(0, 1);
                return both("note", x.note(k, f, b, bit), model.note(k, f, b, bit), k, f, b, bit);
            }
            case 2:
                return both("forget", x.forget(), model.forget());
            case 3: {
                int k = k();
                return both("is", x.is(k), model.is(k), k);
            }
            case 4: {
                int k = k();
                return both("send", x.send(k), model.send(k), k);
            }
            case 5: case 6: {
                int a = c(), b = c(), k = any(-1, 3);
                return both("two", x.two(a, b, k), model.two(a, b, k), a, b, k);
            }
            case 7: {
                int a = c(), c = any(0, 10);
                return both("strays", x.strays(a, c), model.strays(a, c), a, c);
            }
            default: {
                int seed = any(0, 999999), n = any(0, 60);
                return both("villages", x.villages(seed, n), model.villages(seed, n), seed, n);
            }
        }
    }

    private long[] counting() {
        int what = any(0, 6);
        switch (random.nextInt(4)) {
            case 0:
                return both("part", x.part(what & 1), model.part(what & 1), what & 1);
            case 1:
                return both("status", x.status(what), model.status(what), what);
            case 2:
                return both("part", x.part(what), model.part(what), what);
            default:
                return both("count", x.count(what), model.count(what), what);
        }
    }

    private long[] oneCall() {
        int dice = random.nextInt(100);
        if (dice < 8) {
            return building();
        }
        if (dice < 18) {
            return typing();
        }
        if (dice < 45) {
            return going();
        }
        if (dice < 70) {
            return asking();
        }
        return dice < 92 ? guessing() : counting();
    }

    private void typeText(StringBuilder told) {
        x.clear();
        model.clear();
        for (int i = 0; i < told.length(); i++) {
            x.type(told.charAt(i));
            model.type(told.charAt(i));
        }
    }

    private void same(Check check, int run, int i) {
        check.due("run " + run + ", digest behind " + call + " (" + i + ")", x.digest(), model.digest());
        for (int what = 0; what < 3; what++) {
            check.due("run " + run + ", status(" + what + ") behind " + call + " (" + i + ")",
                x.status(what), model.status(what));
        }
    }

    private void calls(Check check, int run) {
        boolean quickly = run % 2 == 0;
        for (int i = 0; i < CALLS && check.wrongs() == 0; i++) {
            long[] answers = quickly && i < 12 ? building() : oneCall();
            check.due("run " + run + ", call " + i + ": " + call, answers[0], answers[1]);
            if (i % 8 == 0) {
                same(check, run, i);
            }
        }
        same(check, run, CALLS);
    }

    private void texts(Check check, int run) {
        for (int i = 0; i < 60; i++) {
            StringBuilder told = new StringBuilder("village;");
            int pieces = random.nextInt(14);
            for (int j = 0; j < pieces; j++) {
                told.append(PIECES[random.nextInt(PIECES.length)]);
            }
            if (random.nextInt(3) == 0) {
                told.deleteCharAt(random.nextInt(told.length()));
            }
            typeText(told);
            call = "read of " + told;
            check.due(call, x.read(), model.read());
            same(check, run, i);
        }
    }

    public static void main(String[] args) {
        Check check = new Check("StormTest");
        check.promise(0, "storms");
        for (int run = 0; run < RUNS; run++) {
            new StormTest(run).calls(check, run);
            if (run % 6 == 0) {
                new StormTest(-1 - run).texts(check, run);
            }
        }
        check.end();
    }
}
