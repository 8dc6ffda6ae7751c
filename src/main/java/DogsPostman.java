/** A hill village whose dogs choose the postman by whom they bite; README.md tells how it is used. */
public final class DogsPostman {
    public static final int NONE = -1, BAD = -2, NO = -3, FULL = -4;

    private static final int MOST_MEN = 4, MOST_DOGS = 7, MOST_NOTES = 6, MOST_PASTS = 8;
    private static final int MOST_BYTES = 150, LAST_ROUND = 999, MOST_AHEAD = 30, IMAGES = 2;
    private static final int MOST_BOOTS = 9, MOST_HAM = 30, MOST_WEIGHT = 5, MOST_HUNGER = 9;
    private static final int KINDS = 6, EVERY_KIND = 63;
    private static final int NO_DOG = 7, CHOICES = 8, NOT_SO_MANY = -5, TWO_BAD = -10, FAULT_BASE = -10;

    private final Village now;
    // A text is read into this one first, so that a fault leaves the village as it was.
    private final Village spare;
    // One that is null was never kept.
    private final Village[] images;
    private final Text text;
    private int above, below;
    private int badCalls, noCalls, fullCalls;
    // Rows for the answers, made once: what a call makes stays in the room.
    private final int[] row;
    private final int[] gainA, gainB;

    public DogsPostman() {
        now = new Village();
        spare = new Village();
        images = new Village[IMAGES];
        text = new Text();
        above = 0;
        below = 1;
        row = new int[MOST_MEN];
        gainA = new int[CHOICES * CHOICES];
        gainB = new int[CHOICES * CHOICES];
    }

    // ---- a village

    public int village() {
        int had = now.dogs;
        now.empty();
        return had;
    }

    public int man(int boots, int ham) {
        if (!within(boots, 0, MOST_BOOTS) || !within(ham, 0, MOST_HAM)) {
            return refuse(BAD);
        }
        if (now.men >= MOST_MEN) {
            return refuse(FULL);
        }
        return now.addMan(boots, ham);
    }

    public int dog(int kind, int weight, int hunger, int favourite) {
        if (!within(kind, 0, KINDS - 1) || !within(weight, 1, MOST_WEIGHT)) {
            return refuse(BAD);
        }
        if (!within(hunger, 1, MOST_HUNGER) || !within(favourite, 0, MOST_MEN - 1)) {
            return refuse(BAD);
        }
        if (now.dogs >= MOST_DOGS) {
            return refuse(FULL);
        }
        return now.addDog(kind, weight, hunger, favourite);
    }

    public int type(int c) {
        if (!within(c, 0, 127)) {
            return refuse(BAD);
        }
        if (text.length >= MOST_BYTES) {
            return refuse(FULL);
        }
        return text.add(c);
    }

    public int clear() {
        int had = text.length;
        text.length = 0;
        return had;
    }

    public int read() {
        Reader reader = new Reader(text, spare);
        int items = reader.readVillage();
        if (items == NONE) {
            return FAULT_BASE - reader.at;
        }
        now.takeFrom(spare);
        return items;
    }

    // ---- rounds

    public int bribe(int c, int k) {
        if (!now.hasMan(c) || !now.hasDog(k)) {
            return refuse(BAD);
        }
        if (!now.mayBribe(c, k)) {
            return refuse(NO);
        }
        now.keepPast();
        now.putToSleep(c, k);
        return now.ham[c];
    }

    public int round(int n) {
        if (!within(n, 1, MOST_AHEAD)) {
            return refuse(BAD);
        }
        now.keepPast();
        for (int i = 0; i < n && now.round < LAST_ROUND; i++) {
            now.addRound(now.holes, now.round, now.asleep);
            now.asleep = 0;
            now.round++;
        }
        return postmanOf(now.holes, now.men);
    }

    public int undo() {
        if (now.pasts == 0) {
            return refuse(NO);
        }
        now.goBack();
        return now.round;
    }

    public int of(int c, int what) {
        if (!now.hasMan(c)) {
            return refuse(BAD);
        }
        switch (what) {
            case 0: return now.boots[c];
            case 1: return now.ham[c];
            case 2: return now.holes[c];
            default: return refuse(BAD);
        }
    }

    public int about(int k, int what) {
        if (!now.hasDog(k)) {
            return refuse(BAD);
        }
        switch (what) {
            case 0: return now.kind[k];
            case 1: return now.weight[k];
            case 2: return now.hunger[k];
            case 3: return now.favourite[k];
            case 4: return now.isAsleep(k) ? 1 : 0;
            case 5: return Kinds.width(now.kind[k], now.weight[k]);
            case 6: return Kinds.bites(now.kind[k]);
            default: return refuse(BAD);
        }
    }

    // ---- who is bitten

    public int bitten(int c, int what) {
        if (!now.hasMan(c) || !within(what, 0, 1)) {
            return refuse(BAD);
        }
        int start = now.startOf(now.round);
        return what == 0 ? now.bitersOf(c, start, now.asleep) : now.widthTo(c, start, now.asleep);
    }

    public int then(int c, int m) {
        if (!now.hasMan(c) || !within(m, 0, MOST_AHEAD)) {
            return refuse(BAD);
        }
        lookAhead(m);
        return row[c];
    }

    public int won(int m, int what) {
        if (!within(m, 0, MOST_AHEAD) || !within(what, 0, 1)) {
            return refuse(BAD);
        }
        lookAhead(m);
        return what == 0 ? postmanOf(row, now.men) : leaverOf(row, now.men);
    }

    public int letters() {
        lookAhead(1);
        int postman = postmanOf(row, now.men);
        int left = 0;
        for (int k = 0; k < now.dogs; k++) {
            if (now.favourite[k] != postman) {
                left |= 1 << k;
            }
        }
        return left;
    }

    public int bribes(int c, int what) {
        if (!now.hasMan(c) || !within(what, 0, 1)) {
            return refuse(BAD);
        }
        int leastHam = MOST_HAM + 1;
        int which = NONE;
        int every = now.everyDog();
        // Sets rise, and only less ham takes the place: of like ones the least set stays.
        for (int set = 0; set <= every; set++) {
            if ((set & now.asleep) != 0) {
                continue;
            }
            int cost = now.hungerOf(set);
            if (cost <= now.ham[c] && cost < leastHam && winsByBribing(c, set)) {
                leastHam = cost;
                which = set;
            }
        }
        if (which == NONE) {
            return NONE;
        }
        return what == 0 ? leastHam : which;
    }

    public int still(int c) {
        if (!now.hasMan(c)) {
            return refuse(BAD);
        }
        lookAhead(0);
        for (int m = 1; m <= MOST_AHEAD; m++) {
            now.addRound(row, now.round + m - 1, m == 1 ? now.asleep : 0);
            if (postmanOf(row, now.men) == c) {
                return m;
            }
        }
        return NONE;
    }

    public int first(int c, int what) {
        if (!now.hasMan(c) || !within(what, 0, 1)) {
            return refuse(BAD);
        }
        int which = 0;
        int least = now.widthTo(c, 0, now.asleep);
        for (int start = 1; start < now.men; start++) {
            int width = now.widthTo(c, start, now.asleep);
            if (width < least) {
                least = width;
                which = start;
            }
        }
        return what == 0 ? which : least;
    }

    public int slept(int r, int c, int x, int what) {
        if (!within(r, 0, 99) || !now.hasMan(c)) {
            return refuse(BAD);
        }
        if (!within(x, 0, 200) || !within(what, 0, 2)) {
            return refuse(BAD);
        }
        int start = now.startOf(r);
        int many = 0;
        int every = now.everyDog();
        int inAll = every;
        int inSome = 0;
        for (int set = 0; set <= every; set++) {
            if (now.widthTo(c, start, set) == x) {
                many++;
                inAll &= set;
                inSome |= set;
            }
        }
        if (what == 0) {
            return many;
        }
        if (what == 1) {
            return many == 0 ? NONE : inAll;
        }
        return inSome;
    }

    // ---- what a dog is

    public int note(int k, int favourite, int b, int bit) {
        if (!now.hasDog(k) || !within(favourite, 0, 1)) {
            return refuse(BAD);
        }
        if (!within(b, 0, MOST_BOOTS) || !within(bit, 0, 1)) {
            return refuse(BAD);
        }
        if (now.notes >= MOST_NOTES) {
            return refuse(FULL);
        }
        return now.addNote(k, favourite, b, bit);
    }

    public int forget() {
        int had = now.notes;
        now.notes = 0;
        return had;
    }

    public int is(int k) {
        if (!now.hasDog(k)) {
            return refuse(BAD);
        }
        return now.kindsBy(k);
    }

    public int send(int k) {
        if (!now.hasDog(k)) {
            return refuse(BAD);
        }
        int kinds = now.kindsBy(k);
        if (kinds == 0) {
            return NONE;
        }
        int which = NONE;
        int least = KINDS + 1;
        for (int code = 0; code < 20; code++) {
            int biting = Integer.bitCount(kinds & Kinds.biting(code / 10 == 1, code % 10));
            int greater = Math.max(biting, Integer.bitCount(kinds) - biting);
            if (greater < least) {
                least = greater;
                which = code;
            }
        }
        return which;
    }

    public int two(int a, int b, int k) {
        if (!now.hasMan(a) || !now.hasMan(b) || a == b || k < NONE) {
            refuse(BAD);
            return TWO_BAD;
        }
        fillGains(a, b);
        int seen = 0;
        for (int i = 0; i < CHOICES; i++) {
            for (int j = 0; j < CHOICES; j++) {
                if (!rests(i, j)) {
                    continue;
                }
                if (seen == k) {
                    return CHOICES * i + j;
                }
                seen++;
            }
        }
        return k == NONE ? seen : NOT_SO_MANY;
    }

    public int strays(int a, int c) {
        if (!now.hasMan(a) || !within(c, 0, 10)) {
            return refuse(BAD);
        }
        // Each dog bites or sleeps apart from the others, so the mean is the whole width by the odds.
        int start = now.startOf(now.round);
        int tenths = now.widthTo(a, start, now.asleep) * (10 - c);
        int common = commonDivisor(10, tenths);
        above = tenths / common;
        below = 10 / common;
        return 1;
    }

    public int villages(int seed, int n) {
        if (!within(seed, 0, 999999) || !within(n, 0, 60)) {
            return refuse(BAD);
        }
        lookAhead(0);
        long x = seed;
        for (int i = 0; i < n; i++) {
            x = (x * 1103515245L + 12345L) % 2147483648L;
            int besides = (int) (x / 65536L % 128L);
            int before = i == 0 ? now.asleep : 0;
            now.addRound(row, now.round + i, before | besides);
        }
        return postmanOf(row, now.men);
    }

    // ---- what there is

    public long part(int what) {
        switch (what) {
            case 0: return above;
            case 1: return below;
            default: return refuse(BAD);
        }
    }

    public int image(int i) {
        if (!within(i, 0, IMAGES - 1)) {
            return refuse(BAD);
        }
        Village image = images[i];
        if (image == null) {
            image = new Village();
            images[i] = image;
        }
        image.takeFrom(now);
        return 1;
    }

    public int from(int i) {
        if (!within(i, 0, IMAGES - 1)) {
            return refuse(BAD);
        }
        Village image = images[i];
        if (image == null) {
            return refuse(NO);
        }
        now.takeFrom(image);
        return 1;
    }

    public int status(int what) {
        switch (what) {
            case 0: return badCalls;
            case 1: return noCalls;
            case 2: return fullCalls;
            default:
                refuse(BAD);
                return -1;
        }
    }

    public int count(int what) {
        if (!within(what, 0, 6)) {
            return refuse(BAD);
        }
        return counted(what);
    }

    public long digest() {
        long h = 1367;
        for (int what = 0; what <= 6; what++) {
            h = 31 * h + counted(what);
        }
        h = now.digestOn(h);
        h = 31 * h + above;
        return 31 * h + below;
    }

    private static boolean within(int v, int low, int high) {
        return v >= low && v <= high;
    }

    private int refuse(int reason) {
        if (reason == BAD) {
            badCalls++;
        } else if (reason == NO) {
            noCalls++;
        } else {
            fullCalls++;
        }
        return reason;
    }

    private int counted(int what) {
        switch (what) {
            case 0: return now.men;
            case 1: return now.dogs;
            case 2: return now.round;
            case 3: return Integer.bitCount(now.asleep);
            case 4: return now.notes;
            case 5: return now.pasts;
            default: return text.length;
        }
    }

    /** Fills the row with the holes behind so many rounds. */
    private void lookAhead(int rounds) {
        System.arraycopy(now.holes, 0, row, 0, MOST_MEN);
        for (int i = 0; i < rounds; i++) {
            now.addRound(row, now.round + i, i == 0 ? now.asleep : 0);
        }
    }

    private boolean winsByBribing(int c, int set) {
        lookAhead(0);
        now.addRound(row, now.round, now.asleep | set);
        return postmanOf(row, now.men) == c;
    }

    private static int postmanOf(int[] holes, int men) {
        int best = NONE;
        for (int c = 0; c < men; c++) {
            if (holes[c] >= 1 && (best == NONE || holes[c] < holes[best])) {
                best = c;
            }
        }
        return best;
    }

    private static int leaverOf(int[] holes, int men) {
        int worst = NONE;
        for (int c = 0; c < men; c++) {
            if (holes[c] >= 1 && (worst == NONE || holes[c] > holes[worst])) {
                worst = c;
            }
        }
        return worst;
    }

    private boolean mayChoose(int i) {
        return i == NO_DOG || now.hasDog(i) && !now.isAsleep(i);
    }

    /** What each pair of choices brings; pairs that can not be chosen keep what stood there, and nobody looks. */
    private void fillGains(int a, int b) {
        int start = now.startOf(now.round);
        for (int i = 0; i < CHOICES; i++) {
            for (int j = 0; j < CHOICES; j++) {
                if (!mayChoose(i) || !mayChoose(j)) {
                    continue;
                }
                int sleeping = now.asleep | doorOf(i) | doorOf(j);
                gainA[CHOICES * i + j] = -now.widthTo(a, start, sleeping) - priceOf(i);
                gainB[CHOICES * i + j] = -now.widthTo(b, start, sleeping) - priceOf(j);
            }
        }
    }

    private static int doorOf(int choice) {
        return choice == NO_DOG ? 0 : 1 << choice;
    }

    private static int priceOf(int choice) {
        return choice == NO_DOG ? 0 : 1;
    }

    private boolean rests(int i, int j) {
        if (!mayChoose(i) || !mayChoose(j)) {
            return false;
        }
        int pair = CHOICES * i + j;
        for (int other = 0; other < CHOICES; other++) {
            if (!mayChoose(other)) {
                continue;
            }
            if (gainA[CHOICES * other + j] > gainA[pair] || gainB[CHOICES * i + other] > gainB[pair]) {
                return false;
            }
        }
        return true;
    }

    private static int commonDivisor(int a, int b) {
        int greater = a;
        int less = b;
        // The remainder falls below 10 at once, so a few steps are enough.
        for (int i = 0; i < 100 && less != 0; i++) {
            int rest = greater % less;
            greater = less;
            less = rest;
        }
        return greater == 0 ? 1 : greater;
    }

    /** What the kinds do. */
    private static final class Kinds {
        static final int PLAIN = 0, PUPPY = 1, MASTIFF = 2, STRAY = 3, OLD = 4, SHARP = 5;
        static final int SOFT_BOOTS = 8, SOFTER_BOOTS = 5;

        private Kinds() {
        }

        static boolean wouldBite(int kind, boolean isFavourite, int boots) {
            switch (kind) {
                case MASTIFF:
                case OLD:
                    return !isFavourite;
                case STRAY:
                    return boots < SOFT_BOOTS;
                case SHARP:
                    return boots < SOFTER_BOOTS;
                default:
                    return !isFavourite && boots < SOFT_BOOTS;
            }
        }

        static int bites(int kind) {
            switch (kind) {
                case STRAY:
                case SHARP:
                    return 3;
                case OLD:
                    return 1;
                default:
                    return 2;
            }
        }

        static int width(int kind, int weight) {
            switch (kind) {
                case PUPPY:
                    return 0;
                case MASTIFF:
                case OLD:
                    return 2 * weight;
                case SHARP:
                    return weight + 1;
                default:
                    return weight;
            }
        }

        /** The kinds, as bits, that would bite one in such boots. */
        static int biting(boolean isFavourite, int boots) {
            int set = 0;
            for (int kind = 0; kind < KINDS; kind++) {
                if (wouldBite(kind, isFavourite, boots)) {
                    set |= 1 << kind;
                }
            }
            return set;
        }
    }

    /** All that an image keeps. */
    private static final class Village {
        static final int NOTE_WIDE = 4, PAST_WIDE = 2 * MOST_MEN + 2;

        int men, dogs, asleep, round, notes, pasts;
        final int[] boots, ham, holes;
        final int[] kind, weight, hunger, favourite;
        // Flat rows: a note, a past stands in so many places behind one another.
        final int[] noted;
        final int[] past;

        Village() {
            boots = new int[MOST_MEN];
            ham = new int[MOST_MEN];
            holes = new int[MOST_MEN];
            kind = new int[MOST_DOGS];
            weight = new int[MOST_DOGS];
            hunger = new int[MOST_DOGS];
            favourite = new int[MOST_DOGS];
            noted = new int[MOST_NOTES * NOTE_WIDE];
            past = new int[MOST_PASTS * PAST_WIDE];
        }

        void empty() {
            men = 0;
            dogs = 0;
            asleep = 0;
            round = 0;
            notes = 0;
            pasts = 0;
        }

        void takeFrom(Village other) {
            men = other.men;
            dogs = other.dogs;
            asleep = other.asleep;
            round = other.round;
            notes = other.notes;
            pasts = other.pasts;
            System.arraycopy(other.boots, 0, boots, 0, MOST_MEN);
            System.arraycopy(other.ham, 0, ham, 0, MOST_MEN);
            System.arraycopy(other.holes, 0, holes, 0, MOST_MEN);
            System.arraycopy(other.kind, 0, kind, 0, MOST_DOGS);
            System.arraycopy(other.weight, 0, weight, 0, MOST_DOGS);
            System.arraycopy(other.hunger, 0, hunger, 0, MOST_DOGS);
            System.arraycopy(other.favourite, 0, favourite, 0, MOST_DOGS);
            System.arraycopy(other.noted, 0, noted, 0, MOST_NOTES * NOTE_WIDE);
            System.arraycopy(other.past, 0, past, 0, MOST_PASTS * PAST_WIDE);
        }

        boolean hasMan(int c) {
            return c >= 0 && c < men;
        }

        boolean hasDog(int k) {
            return k >= 0 && k < dogs;
        }

        static boolean isIn(int set, int i) {
            return (set >> i & 1) == 1;
        }

        boolean isAsleep(int k) {
            return isIn(asleep, k);
        }

        int everyDog() {
            return (1 << dogs) - 1;
        }

        int addMan(int b, int h) {
            boots[men] = b;
            ham[men] = h;
            holes[men] = 0;
            pasts = 0;
            return men++;
        }

        int addDog(int itsKind, int itsWeight, int itsHunger, int itsFavourite) {
            kind[dogs] = itsKind;
            weight[dogs] = itsWeight;
            hunger[dogs] = itsHunger;
            favourite[dogs] = itsFavourite;
            pasts = 0;
            return dogs++;
        }

        boolean mayBribe(int c, int k) {
            return !isAsleep(k) && hunger[k] <= ham[c];
        }

        void putToSleep(int c, int k) {
            asleep |= 1 << k;
            ham[c] -= hunger[k];
        }

        int hungerOf(int set) {
            int sum = 0;
            for (int k = 0; k < dogs; k++) {
                if (isIn(set, k)) {
                    sum += hunger[k];
                }
            }
            return sum;
        }

        void keepPast() {
            if (pasts >= MOST_PASTS) {
                System.arraycopy(past, PAST_WIDE, past, 0, (MOST_PASTS - 1) * PAST_WIDE);
                pasts = MOST_PASTS - 1;
            }
            int place = pasts * PAST_WIDE;
            System.arraycopy(ham, 0, past, place, MOST_MEN);
            System.arraycopy(holes, 0, past, place + MOST_MEN, MOST_MEN);
            past[place + 2 * MOST_MEN] = asleep;
            past[place + 2 * MOST_MEN + 1] = round;
            pasts++;
        }

        void goBack() {
            if (pasts <= 0) {
                return;
            }
            pasts--;
            int place = pasts * PAST_WIDE;
            System.arraycopy(past, place, ham, 0, MOST_MEN);
            System.arraycopy(past, place + MOST_MEN, holes, 0, MOST_MEN);
            asleep = past[place + 2 * MOST_MEN];
            round = past[place + 2 * MOST_MEN + 1];
        }

        /** The number of the candidate that comes first in a round. */
        int startOf(int r) {
            return men == 0 ? 0 : r % men;
        }

        /** Whom a dog bites, as bits, if it is awake. */
        int bittenBy(int k, int start) {
            int set = 0;
            int left = Kinds.bites(kind[k]);
            for (int i = 0; i < men && left > 0; i++) {
                int c = (start + i) % men;
                if (Kinds.wouldBite(kind[k], favourite[k] == c, boots[c])) {
                    set |= 1 << c;
                    left--;
                }
            }
            return set;
        }

        int bitersOf(int c, int start, int sleeping) {
            int set = 0;
            for (int k = 0; k < dogs; k++) {
                if (!isIn(sleeping, k) && isIn(bittenBy(k, start), c)) {
                    set |= 1 << k;
                }
            }
            return set;
        }

        int widthTo(int c, int start, int sleeping) {
            int sum = 0;
            for (int k = 0; k < dogs; k++) {
                if (!isIn(sleeping, k) && isIn(bittenBy(k, start), c)) {
                    sum += Kinds.width(kind[k], weight[k]);
                }
            }
            return sum;
        }

        /** Adds the holes of a round to a row that has a place for each candidate. */
        void addRound(int[] sums, int r, int sleeping) {
            int start = startOf(r);
            for (int k = 0; k < dogs; k++) {
                if (isIn(sleeping, k)) {
                    continue;
                }
                int bitten = bittenBy(k, start);
                for (int c = 0; c < men; c++) {
                    if (isIn(bitten, c)) {
                        sums[c] += Kinds.width(kind[k], weight[k]);
                    }
                }
            }
        }

        int addNote(int k, int isFavourite, int b, int bit) {
            int place = notes * NOTE_WIDE;
            noted[place] = k;
            noted[place + 1] = isFavourite;
            noted[place + 2] = b;
            noted[place + 3] = bit;
            notes++;
            return notes;
        }

        /** The kinds, as bits, by which all that is noted of a dog is so. */
        int kindsBy(int k) {
            int set = EVERY_KIND;
            for (int i = 0; i < notes; i++) {
                int place = i * NOTE_WIDE;
                if (noted[place] == k) {
                    int biting = Kinds.biting(noted[place + 1] == 1, noted[place + 2]);
                    set &= noted[place + 3] == 1 ? biting : ~biting;
                }
            }
            return set;
        }

        long digestOn(long begun) {
            long h = begun;
            for (int c = 0; c < men; c++) {
                h = 31 * h + boots[c];
                h = 31 * h + ham[c];
                h = 31 * h + holes[c];
            }
            for (int k = 0; k < dogs; k++) {
                h = 31 * h + kind[k];
                h = 31 * h + weight[k];
                h = 31 * h + hunger[k];
                h = 31 * h + favourite[k];
                h = 31 * h + (isAsleep(k) ? 1 : 0);
            }
            for (int i = 0; i < notes * NOTE_WIDE; i++) {
                h = 31 * h + noted[i];
            }
            return h;
        }
    }

    /** The text that is typed. */
    private static final class Text {
        final byte[] bytes;
        int length;

        Text() {
            bytes = new byte[MOST_BYTES];
            length = 0;
        }

        int add(int c) {
            bytes[length] = (byte) c;
            length++;
            return length;
        }

        int at(int place) {
            return place >= 0 && place < length ? bytes[place] : NONE;
        }
    }

    /** Reads a text into a village, token by token, up to the first token that can not stand there. */
    private static final class Reader {
        static final int END = 0, WORD = 1, NUMBER = 2, SEMICOLON = 3, WRONG = 4;
        static final String VILLAGE = "village", MAN = "man", DOG = "dog", BRIBE = "bribe";

        final Text text;
        final Village into;
        int sort, at, behind, value;

        Reader(Text text, Village into) {
            this.text = text;
            this.into = into;
        }

        /** How many items; NONE at a fault, whose place is that of the token read last. */
        int readVillage() {
            into.empty();
            next();
            if (!wordHere(VILLAGE) || !semicolonNext()) {
                return NONE;
            }
            int items = 1;
            next();
            // Each item takes two bytes at least, so there are fewer items than bytes.
            for (int i = 0; i < MOST_BYTES && sort != END; i++) {
                if (!readItem()) {
                    return NONE;
                }
                items++;
                next();
            }
            return items;
        }

        boolean readItem() {
            if (wordHere(MAN)) {
                return readMan();
            }
            if (wordHere(DOG)) {
                return readDog();
            }
            return wordHere(BRIBE) && readBribe();
        }

        boolean readMan() {
            if (into.men >= MOST_MEN || !numberNext(0, MOST_BOOTS)) {
                return false;
            }
            int boots = value;
            if (!numberNext(0, MOST_HAM)) {
                return false;
            }
            into.addMan(boots, value);
            return semicolonNext();
        }

        boolean readDog() {
            if (into.dogs >= MOST_DOGS || !numberNext(0, KINDS - 1)) {
                return false;
            }
            int kind = value;
            if (!numberNext(1, MOST_WEIGHT)) {
                return false;
            }
            int weight = value;
            if (!numberNext(1, MOST_HUNGER)) {
                return false;
            }
            int hunger = value;
            if (!numberNext(0, MOST_MEN - 1)) {
                return false;
            }
            into.addDog(kind, weight, hunger, value);
            return semicolonNext();
        }

        boolean readBribe() {
            if (!numberNext(0, into.men - 1)) {
                return false;
            }
            int c = value;
            if (!numberNext(0, into.dogs - 1) || !into.mayBribe(c, value)) {
                return false;
            }
            into.putToSleep(c, value);
            return semicolonNext();
        }

        boolean numberNext(int low, int high) {
            next();
            return sort == NUMBER && value >= low && value <= high;
        }

        boolean semicolonNext() {
            next();
            return sort == SEMICOLON;
        }

        boolean wordHere(String word) {
            if (sort != WORD || behind - at != word.length()) {
                return false;
            }
            for (int i = 0; i < word.length(); i++) {
                if (text.at(at + i) != word.charAt(i)) {
                    return false;
                }
            }
            return true;
        }

        /** Goes on to the next token: at its first byte, behind its last one; at the text's length if there is none. */
        void next() {
            at = behind;
            while (at < text.length && text.at(at) == ' ') {
                at++;
            }
            behind = at;
            if (at >= text.length) {
                sort = END;
                return;
            }
            behind = at + 1;
            int b = text.at(at);
            if (isLetter(b)) {
                sort = WORD;
                while (behind < text.length && isLetter(text.at(behind))) {
                    behind++;
                }
            } else if (isFigure(b)) {
                takeNumber(b - '0');
            } else {
                sort = b == ';' ? SEMICOLON : WRONG;
            }
        }

        void takeNumber(int firstFigure) {
            value = firstFigure;
            while (behind < text.length && isFigure(text.at(behind))) {
                // Only two figures count: a longer run is refused, so its value is free.
                if (behind - at < 2) {
                    value = 10 * value + text.at(behind) - '0';
                }
                behind++;
            }
            sort = behind - at <= 2 ? NUMBER : WRONG;
        }

        static boolean isLetter(int c) {
            return c >= 'a' && c <= 'z';
        }

        static boolean isFigure(int c) {
            return c >= '0' && c <= '9';
        }
    }
}
