import java.math.BigInteger;
import java.util.ArrayList;
import java.util.HashMap;
import java.util.List;
import java.util.Map;
import java.util.TreeMap;
import java.util.TreeSet;

/**
 * The document told a second time, as plainly as the Java library lets it be told, and apart from the program:
 * kinds are classes under one another, a state is copied whole whenever it is kept, sets are sets.
 */
final class Model {
    static class Plain {
        boolean bites(boolean favourite, int b) { return !favourite && b < 8; }
        int many() { return 2; }
        int wide(int w) { return w; }
    }
    static class Puppy extends Plain {
        @Override int wide(int w) { return 0; }
    }
    static class Mastiff extends Plain {
        @Override boolean bites(boolean favourite, int b) { return !favourite; }
        @Override int wide(int w) { return 2 * super.wide(w); }
    }
    static class Stray extends Plain {
        @Override boolean bites(boolean favourite, int b) { return super.bites(favourite, b) || favourite && b < 8; }
        @Override int many() { return super.many() + 1; }
    }
    static class Old extends Mastiff {
        @Override int many() { return super.many() - 1; }
    }
    static class Sharp extends Stray {
        @Override boolean bites(boolean favourite, int b) { return super.bites(favourite, b) && b < 5; }
        @Override int wide(int w) { return super.wide(w) + 1; }
    }

    static final List<Plain> KINDS =
        List.of(new Plain(), new Puppy(), new Mastiff(), new Stray(), new Old(), new Sharp());

    record Man(int boots, int ham, int holes) { }
    record Dog(int kind, int weight, int hunger, int favourite, boolean asleep) {
        Dog put(boolean toSleep) { return new Dog(kind, weight, hunger, favourite, toSleep); }
        Plain is() { return KINDS.get(kind); }
    }
    record Noted(int k, int favourite, int b, int bit) { }
    record Before(List<Man> men, List<Dog> dogs, int round) { }
    record State(List<Man> men, List<Dog> dogs, int round, List<Noted> notes, List<Before> undo) {
        static State none() { return new State(List.of(), List.of(), 0, List.of(), List.of()); }
    }

    State now = State.none();
    final Map<Integer, State> images = new HashMap<>();
    final StringBuilder text = new StringBuilder();
    BigInteger above = BigInteger.ZERO;
    BigInteger below = BigInteger.ONE;
    final int[] refused = new int[3];

    private int no(int answer) {
        refused[-2 - answer]++;
        return answer;
    }

    private static boolean in(int v, int low, int high) {
        return low <= v && v <= high;
    }

    private boolean man(int c) {
        return in(c, 0, now.men.size() - 1);
    }

    private boolean dog(int k) {
        return in(k, 0, now.dogs.size() - 1);
    }

    private static <T> List<T> with(List<T> list, T one) {
        List<T> more = new ArrayList<>(list);
        more.add(one);
        return List.copyOf(more);
    }

    private static <T> List<T> put(List<T> list, int at, T one) {
        List<T> other = new ArrayList<>(list);
        other.set(at, one);
        return List.copyOf(other);
    }

    private List<Before> remember() {
        List<Before> more = with(now.undo, new Before(now.men, now.dogs, now.round));
        return more.size() > 8 ? List.copyOf(more.subList(more.size() - 8, more.size())) : more;
    }

    /** Who sleeps, now. */
    private static TreeSet<Integer> sleepers(State s) {
        TreeSet<Integer> set = new TreeSet<>();
        for (int k = 0; k < s.dogs.size(); k++) {
            if (s.dogs.get(k).asleep) {
                set.add(k);
            }
        }
        return set;
    }

    /** By which dogs each candidate is bitten, when the one of this number comes first. */
    private static List<TreeSet<Integer>> walk(State s, int firstMan, TreeSet<Integer> sleeping) {
        List<TreeSet<Integer>> biters = new ArrayList<>();
        List<Integer> order = new ArrayList<>();
        for (int c = 0; c < s.men.size(); c++) {
            biters.add(new TreeSet<>());
        }
        for (int c = firstMan; c < s.men.size(); c++) {
            order.add(c);
        }
        for (int c = 0; c < firstMan && c < s.men.size(); c++) {
            order.add(c);
        }
        Map<Integer, Integer> done = new HashMap<>();
        for (int c : order) {
            for (int k = 0; k < s.dogs.size(); k++) {
                Dog d = s.dogs.get(k);
                int bitten = done.getOrDefault(k, 0);
                if (!sleeping.contains(k) && bitten < d.is().many()
                        && d.is().bites(d.favourite == c, s.men.get(c).boots)) {
                    biters.get(c).add(k);
                    done.put(k, bitten + 1);
                }
            }
        }
        return biters;
    }

    private static int firstIn(State s, int r) {
        return s.men.isEmpty() ? 0 : Math.floorMod(r, s.men.size());
    }

    private static int wide(State s, TreeSet<Integer> biters) {
        return biters.stream().mapToInt(k -> s.dogs.get(k).is().wide(s.dogs.get(k).weight)).sum();
    }

    /** A round gone by, with no end of rounds. */
    private static State gone(State s, TreeSet<Integer> sleeping) {
        List<TreeSet<Integer>> biters = walk(s, firstIn(s, s.round), sleeping);
        List<Man> men = new ArrayList<>();
        for (int c = 0; c < s.men.size(); c++) {
            Man m = s.men.get(c);
            men.add(new Man(m.boots, m.ham, m.holes + wide(s, biters.get(c))));
        }
        List<Dog> dogs = s.dogs.stream().map(d -> d.put(false)).toList();
        return new State(List.copyOf(men), dogs, s.round + 1, s.notes, s.undo);
    }

    private static State behind(State s, int rounds) {
        State t = s;
        for (int i = 0; i < rounds; i++) {
            t = gone(t, sleepers(t));
        }
        return t;
    }

    private static int chosen(State s, boolean least) {
        int best = -1;
        for (int c = s.men.size() - 1; c >= 0; c--) {
            int holes = s.men.get(c).holes;
            if (holes == 0) {
                continue;
            }
            if (best < 0 || (least ? holes <= s.men.get(best).holes : holes >= s.men.get(best).holes)) {
                best = c;
            }
        }
        return best;
    }

    private static int bits(Iterable<Integer> set) {
        int sum = 0;
        for (int k : set) {
            sum += 1 << k;
        }
        return sum;
    }

    private static List<TreeSet<Integer>> subsets(int dogs) {
        List<TreeSet<Integer>> all = new ArrayList<>();
        all.add(new TreeSet<>());
        for (int k = 0; k < dogs; k++) {
            for (TreeSet<Integer> one : List.copyOf(all)) {
                TreeSet<Integer> more = new TreeSet<>(one);
                more.add(k);
                all.add(more);
            }
        }
        return all;
    }

    int village() {
        int had = now.dogs.size();
        now = State.none();
        return had;
    }

    int man(int boots, int ham) {
        if (!in(boots, 0, 9) || !in(ham, 0, 30)) {
            return no(-2);
        }
        if (now.men.size() == 4) {
            return no(-4);
        }
        now = new State(with(now.men, new Man(boots, ham, 0)), now.dogs, now.round, now.notes, List.of());
        return now.men.size() - 1;
    }

    int dog(int kind, int weight, int hunger, int favourite) {
        if (!in(kind, 0, 5) || !in(weight, 1, 5) || !in(hunger, 1, 9) || !in(favourite, 0, 3)) {
            return no(-2);
        }
        if (now.dogs.size() == 7) {
            return no(-4);
        }
        Dog d = new Dog(kind, weight, hunger, favourite, false);
        now = new State(now.men, with(now.dogs, d), now.round, now.notes, List.of());
        return now.dogs.size() - 1;
    }

    int type(int c) {
        if (!in(c, 0, 127)) {
            return no(-2);
        }
        if (text.length() == 150) {
            return no(-4);
        }
        return text.append((char) c).length();
    }

    int clear() {
        int had = text.length();
        text.setLength(0);
        return had;
    }

    private record Token(int at, String said) {
        boolean number() { return said.matches("[0-9]{1,2}"); }
    }

    private List<Token> tokens() {
        List<Token> all = new ArrayList<>();
        java.util.regex.Matcher m =
            java.util.regex.Pattern.compile("[a-z]+|[0-9]+|[^ a-z0-9]", java.util.regex.Pattern.DOTALL).matcher(text);
        while (m.find()) {
            all.add(new Token(m.start(), m.group()));
        }
        all.add(new Token(text.length(), ""));
        return all;
    }

    int read() {
        Model other = new Model();
        List<Token> all = tokens();
        int items = 0;
        List<Token> item = new ArrayList<>();
        for (Token t : all) {
            if (t.said.isEmpty() && item.isEmpty() && items > 0) {
                now = new State(other.now.men, other.now.dogs, 0, List.of(), List.of());
                return items;
            }
            item.add(t);
            if (!other.stands(item, items)) {
                return -10 - t.at;
            }
            if (t.said.equals(";")) {
                other.take(item);
                item.clear();
                items++;
            }
        }
        throw new IllegalStateException("the last token stands nowhere");
    }

    /** Whether the last token of an item may stand where it does, all ahead of it being right. */
    private boolean stands(List<Token> item, int items) {
        Token last = item.get(item.size() - 1);
        int place = item.size() - 1;
        if (last.said.isEmpty()) {
            return false;
        }
        if (place == 0) {
            return switch (last.said) {
                case "village" -> items == 0;
                case "man" -> items > 0 && now.men.size() < 4;
                case "dog" -> items > 0 && now.dogs.size() < 7;
                case "bribe" -> items > 0;
                default -> false;
            };
        }
        int numbers = switch (item.get(0).said) {
            case "village" -> 0;
            case "dog" -> 4;
            default -> 2;
        };
        if (place == numbers + 1) {
            return last.said.equals(";");
        }
        if (!last.number()) {
            return false;
        }
        int v = Integer.parseInt(last.said);
        return switch (item.get(0).said + place) {
            case "man1" -> v <= 9;
            case "man2" -> v <= 30;
            case "dog1" -> v <= 5;
            case "dog2" -> v >= 1 && v <= 5;
            case "dog3" -> v >= 1 && v <= 9;
            case "dog4" -> v <= 3;
            case "bribe1" -> v < now.men.size();
            default -> v < now.dogs.size() && !now.dogs.get(v).asleep
                && now.dogs.get(v).hunger <= now.men.get(Integer.parseInt(item.get(1).said)).ham;
        };
    }

    private void take(List<Token> item) {
        int[] v = new int[item.size()];
        for (int i = 1; i < item.size() - 1; i++) {
            v[i] = Integer.parseInt(item.get(i).said);
        }
        switch (item.get(0).said) {
            case "man" -> man(v[1], v[2]);
            case "dog" -> dog(v[1], v[2], v[3], v[4]);
            case "bribe" -> bribe(v[1], v[2]);
            default -> village();
        }
    }

    int bribe(int c, int k) {
        if (!man(c) || !dog(k)) {
            return no(-2);
        }
        Man m = now.men.get(c);
        Dog d = now.dogs.get(k);
        if (d.asleep || m.ham < d.hunger) {
            return no(-3);
        }
        List<Man> men = put(now.men, c, new Man(m.boots, m.ham - d.hunger, m.holes));
        now = new State(men, put(now.dogs, k, d.put(true)), now.round, now.notes, remember());
        return m.ham - d.hunger;
    }

    int round(int n) {
        if (!in(n, 1, 30)) {
            return no(-2);
        }
        State then = behind(now, Math.min(n, 999 - now.round));
        now = new State(then.men, then.dogs, then.round, now.notes, remember());
        return chosen(now, true);
    }

    int undo() {
        if (now.undo.isEmpty()) {
            return no(-3);
        }
        Before b = now.undo.get(now.undo.size() - 1);
        now = new State(b.men, b.dogs, b.round, now.notes, List.copyOf(now.undo.subList(0, now.undo.size() - 1)));
        return now.round;
    }

    int of(int c, int what) {
        if (!man(c) || !in(what, 0, 2)) {
            return no(-2);
        }
        Man m = now.men.get(c);
        return List.of(m.boots, m.ham, m.holes).get(what);
    }

    int about(int k, int what) {
        if (!dog(k) || !in(what, 0, 6)) {
            return no(-2);
        }
        Dog d = now.dogs.get(k);
        return List.of(d.kind, d.weight, d.hunger, d.favourite, d.asleep ? 1 : 0, d.is().wide(d.weight),
            d.is().many()).get(what);
    }

    int bitten(int c, int what) {
        if (!man(c) || !in(what, 0, 1)) {
            return no(-2);
        }
        TreeSet<Integer> biters = walk(now, firstIn(now, now.round), sleepers(now)).get(c);
        return what == 0 ? bits(biters) : wide(now, biters);
    }

    int then(int c, int m) {
        if (!man(c) || !in(m, 0, 30)) {
            return no(-2);
        }
        return behind(now, m).men.get(c).holes;
    }

    int won(int m, int what) {
        if (!in(m, 0, 30) || !in(what, 0, 1)) {
            return no(-2);
        }
        return chosen(behind(now, m), what == 0);
    }

    int letters() {
        int postman = chosen(behind(now, 1), true);
        TreeSet<Integer> left = new TreeSet<>();
        for (int k = 0; k < now.dogs.size(); k++) {
            if (postman == -1 || now.dogs.get(k).favourite != postman) {
                left.add(k);
            }
        }
        return bits(left);
    }

    int bribes(int c, int what) {
        if (!man(c) || !in(what, 0, 1)) {
            return no(-2);
        }
        TreeMap<Integer, Integer> byPrice = new TreeMap<>();
        for (TreeSet<Integer> set : subsets(now.dogs.size())) {
            TreeSet<Integer> sleeping = sleepers(now);
            int price = set.stream().mapToInt(k -> now.dogs.get(k).hunger).sum();
            boolean twice = set.stream().anyMatch(sleeping::contains);
            sleeping.addAll(set);
            if (!twice && price <= now.men.get(c).ham && chosen(gone(now, sleeping), true) == c) {
                byPrice.merge(price, bits(set), Math::min);
            }
        }
        if (byPrice.isEmpty()) {
            return -1;
        }
        return what == 0 ? byPrice.firstKey() : byPrice.firstEntry().getValue();
    }

    int still(int c) {
        if (!man(c)) {
            return no(-2);
        }
        for (int m = 1; m <= 30; m++) {
            if (chosen(behind(now, m), true) == c) {
                return m;
            }
        }
        return -1;
    }

    int first(int c, int what) {
        if (!man(c) || !in(what, 0, 1)) {
            return no(-2);
        }
        TreeMap<Integer, Integer> byWidth = new TreeMap<>();
        for (int start = 0; start < now.men.size(); start++) {
            byWidth.merge(wide(now, walk(now, start, sleepers(now)).get(c)), start, Math::min);
        }
        return what == 0 ? byWidth.firstEntry().getValue() : byWidth.firstKey();
    }

    int slept(int r, int c, int x, int what) {
        if (!in(r, 0, 99) || !man(c) || !in(x, 0, 200) || !in(what, 0, 2)) {
            return no(-2);
        }
        List<TreeSet<Integer>> fit = new ArrayList<>();
        for (TreeSet<Integer> set : subsets(now.dogs.size())) {
            if (wide(now, walk(now, firstIn(now, r), set).get(c)) == x) {
                fit.add(set);
            }
        }
        if (what == 0) {
            return fit.size();
        }
        TreeSet<Integer> told = new TreeSet<>();
        for (int k = 0; k < now.dogs.size(); k++) {
            int dog = k;
            if (what == 1 ? fit.stream().allMatch(s -> s.contains(dog)) : fit.stream().anyMatch(s -> s.contains(dog))) {
                told.add(k);
            }
        }
        return what == 1 && fit.isEmpty() ? -1 : bits(told);
    }

    int note(int k, int favourite, int b, int bit) {
        if (!dog(k) || !in(favourite, 0, 1) || !in(b, 0, 9) || !in(bit, 0, 1)) {
            return no(-2);
        }
        if (now.notes.size() == 6) {
            return no(-4);
        }
        now = new State(now.men, now.dogs, now.round, with(now.notes, new Noted(k, favourite, b, bit)), now.undo);
        return now.notes.size();
    }

    int forget() {
        int had = now.notes.size();
        now = new State(now.men, now.dogs, now.round, List.of(), now.undo);
        return had;
    }

    private TreeSet<Integer> kinds(int k) {
        TreeSet<Integer> left = new TreeSet<>(List.of(0, 1, 2, 3, 4, 5));
        left.removeIf(kind -> now.notes.stream().anyMatch(
            n -> n.k == k && KINDS.get(kind).bites(n.favourite == 1, n.b) != (n.bit == 1)));
        return left;
    }

    int is(int k) {
        return dog(k) ? bits(kinds(k)) : no(-2);
    }

    int send(int k) {
        if (!dog(k)) {
            return no(-2);
        }
        TreeSet<Integer> kinds = kinds(k);
        if (kinds.isEmpty()) {
            return -1;
        }
        TreeMap<Long, Integer> byGreater = new TreeMap<>();
        for (int f = 1; f >= 0; f--) {
            for (int b = 9; b >= 0; b--) {
                boolean favourite = f == 1;
                int boots = b;
                long yes = kinds.stream().filter(kind -> KINDS.get(kind).bites(favourite, boots)).count();
                byGreater.put(Math.max(yes, kinds.size() - yes), 10 * f + b);
            }
        }
        return byGreater.firstEntry().getValue();
    }

    private int payment(int who, int mine, int others) {
        TreeSet<Integer> sleeping = sleepers(now);
        sleeping.addAll(List.of(mine, others));
        return -wide(now, walk(now, firstIn(now, now.round), sleeping).get(who)) - (mine == 7 ? 0 : 1);
    }

    int two(int a, int b, int k) {
        if (!man(a) || !man(b) || a == b || k < -1) {
            no(-2);
            return -10;
        }
        List<Integer> may = new ArrayList<>();
        for (int i = 0; i < now.dogs.size(); i++) {
            if (!now.dogs.get(i).asleep) {
                may.add(i);
            }
        }
        may.add(7);
        List<Integer> resting = new ArrayList<>();
        for (int i : may) {
            for (int j : may) {
                boolean aStays = may.stream().allMatch(o -> payment(a, o, j) <= payment(a, i, j));
                boolean bStays = may.stream().allMatch(o -> payment(b, o, i) <= payment(b, j, i));
                if (aStays && bStays) {
                    resting.add(8 * i + j);
                }
            }
        }
        if (k == -1) {
            return resting.size();
        }
        return k < resting.size() ? resting.get(k) : -5;
    }

    int strays(int a, int c) {
        if (!man(a) || !in(c, 0, 10)) {
            return no(-2);
        }
        BigInteger sum = BigInteger.ZERO;
        for (TreeSet<Integer> set : subsets(now.dogs.size())) {
            // In 10 to the power of 7ths: what each set weighs, the dogs asleep now counting as any.
            BigInteger odds = BigInteger.ONE;
            for (int k = 0; k < 7; k++) {
                int of10 = k >= now.dogs.size() ? 10 : set.contains(k) ? c : 10 - c;
                odds = odds.multiply(BigInteger.valueOf(of10));
            }
            TreeSet<Integer> sleeping = sleepers(now);
            sleeping.addAll(set);
            int width = wide(now, walk(now, firstIn(now, now.round), sleeping).get(a));
            sum = sum.add(odds.multiply(BigInteger.valueOf(width)));
        }
        BigInteger whole = BigInteger.TEN.pow(7);
        BigInteger common = sum.gcd(whole);
        above = sum.divide(common);
        below = whole.divide(common);
        return 1;
    }

    int villages(int seed, int n) {
        if (!in(seed, 0, 999999) || !in(n, 0, 60)) {
            return no(-2);
        }
        BigInteger x = BigInteger.valueOf(seed);
        State s = now;
        for (int i = 0; i < n; i++) {
            x = x.multiply(BigInteger.valueOf(1103515245)).add(BigInteger.valueOf(12345))
                .mod(BigInteger.TWO.pow(31));
            int besides = x.shiftRight(16).mod(BigInteger.valueOf(128)).intValue();
            TreeSet<Integer> sleeping = sleepers(s);
            for (int k = 0; k < 7; k++) {
                if (besides / (1 << k) % 2 == 1) {
                    sleeping.add(k);
                }
            }
            s = gone(s, sleeping);
        }
        return chosen(s, true);
    }

    long part(int what) {
        if (what == 0) {
            return above.longValueExact();
        }
        return what == 1 ? below.longValueExact() : no(-2);
    }

    int image(int i) {
        if (!in(i, 0, 1)) {
            return no(-2);
        }
        images.put(i, now);
        return 1;
    }

    int from(int i) {
        if (!in(i, 0, 1)) {
            return no(-2);
        }
        if (!images.containsKey(i)) {
            return no(-3);
        }
        now = images.get(i);
        return 1;
    }

    int status(int what) {
        if (in(what, 0, 2)) {
            return refused[what];
        }
        no(-2);
        return -1;
    }

    private List<Integer> counts() {
        return List.of(now.men.size(), now.dogs.size(), now.round, sleepers(now).size(), now.notes.size(),
            now.undo.size(), text.length());
    }

    int count(int what) {
        return in(what, 0, 6) ? counts().get(what) : no(-2);
    }

    long digest() {
        List<Long> all = new ArrayList<>();
        counts().forEach(v -> all.add((long) v));
        now.men.forEach(m -> all.addAll(List.of((long) m.boots, (long) m.ham, (long) m.holes)));
        now.dogs.forEach(d -> all.addAll(List.of((long) d.kind, (long) d.weight, (long) d.hunger, (long) d.favourite,
            d.asleep ? 1L : 0L)));
        now.notes.forEach(n -> all.addAll(List.of((long) n.k, (long) n.favourite, (long) n.b, (long) n.bit)));
        all.add(part(0));
        all.add(part(1));
        BigInteger h = BigInteger.valueOf(1367);
        for (long v : all) {
            h = h.multiply(BigInteger.valueOf(31)).add(BigInteger.valueOf(v));
        }
        return h.longValue();
    }
}
