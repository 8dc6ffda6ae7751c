import java.io.IOException;
import java.lang.reflect.InvocationTargetException;
import java.lang.reflect.Method;
import java.nio.charset.StandardCharsets;
import java.nio.file.Files;
import java.nio.file.Path;
import java.util.ArrayList;
import java.util.HashMap;
import java.util.List;
import java.util.Map;
import java.util.Set;
import java.util.TreeSet;
import java.util.regex.Matcher;
import java.util.regex.Pattern;

/**
 * Edges: each is a promise's number, the sentence of ../shared/DOC.md that names a boundary, the case in words, and
 * rows of calls on a new object. A line of rows is one of
 *   CALL = DUE; CALL; ..   calls in their order: with the answer that is due, or any that is no refusal;
 *                          DUE is a number or NONE, MIN, MAX; BAD, NO, FULL is a refusal, told as another number
 *                          where one is ahead of it (-10 BAD); rounds N: goes on to ROUND N; keep: the digest is
 *                          remembered; same: it is the remembered one again
 *   text ..                THE TEXT is all behind the blank
 *   more ..                it comes behind THE TEXT
 * Besides what a row tells, each refusal is looked at for what it leaves: nothing but its own STATUS is another;
 * so is each call that only asks. An object is asked 512 times at most, as the document has it.
 */
final class Edges {
    /** Four CANDIDATES in boots 0 with all HAM; seven DOGS, puppies that are hungry by 1; to fill the places. */
    static final String FOUR = "man(0, 30); man(0, 30); man(0, 30); man(0, 30)\n";
    static final String SEVEN = "dog(1, 1, 1, 0); ".repeat(7) + "\n";

    private static final int MOST_CALLS = 512;
    private static final List<String> REASONS = List.of("BAD", "NO", "FULL");
    private static final Set<String> ASKING = Set.of("of", "about", "bitten", "then", "won", "letters", "bribes",
        "still", "first", "slept", "is", "send", "two", "villages", "part");
    private static final Pattern ROW =
        Pattern.compile("(\\w+)\\(([^)]*)\\)(?:\\s*=\\s*(-?\\w+)(?:\\s+(BAD|NO|FULL))?)?");

    private final Check check;
    private final String document;
    private final Map<String, Method> face = new HashMap<>();
    private final TreeSet<Integer> promises = new TreeSet<>();
    private int edges = 0;

    private DogsPostman x;
    private int[] refused;
    private long kept;
    private int calls;

    Edges(String test) {
        check = new Check(test);
        document = documentText();
        for (Method m : DogsPostman.class.getMethods()) {
            if (m.getDeclaringClass() == DogsPostman.class) {
                face.put(m.getName(), m);
            }
        }
    }

    /** Null if there is none: the answers are looked at all the same. */
    private static String documentText() {
        try {
            return Files.readString(Path.of("../shared/DOC.md"), StandardCharsets.UTF_8).replaceAll("\\s+", " ");
        } catch (IOException e) {
            System.out.println("no document ../shared/DOC.md: whether it says each sentence is not looked at");
            return null;
        }
    }

    void edge(int promise, String sentence, String which, String rows) {
        edges++;
        promises.add(promise);
        check.promise(promise, "\"" + sentence + "\", " + which);
        check.isTrue("the document says so", document == null || document.contains(sentence));
        x = new DogsPostman();
        refused = new int[3];
        calls = 0;
        for (String line : rows.split("\n")) {
            aLine(line.stripLeading());
        }
        statusIsAsTold("the end");
        check.isTrue("512 calls at most: " + calls, calls <= MOST_CALLS);
    }

    /** Ends with the edges' number; each promise of these has one. */
    void end(int from, int to) {
        check.promise(0, "edges");
        for (int p = from; p <= to; p++) {
            check.isTrue("promise " + p + " has an edge", promises.contains(p));
        }
        System.out.println(edges + " edges of promises " + from + " to " + to);
        check.end();
    }

    private void aLine(String line) {
        if (line.startsWith("text ")) {
            ask("clear");
            typeAll(line.substring(5));
        } else if (line.startsWith("more ")) {
            typeAll(line.substring(5));
        } else {
            for (String row : line.split(";")) {
                if (!row.isBlank()) {
                    aRow(row.strip());
                }
            }
        }
    }

    private void typeAll(String text) {
        for (int i = 0; i < text.length(); i++) {
            ask("type", text.charAt(i));
        }
    }

    private void aRow(String row) {
        if (row.startsWith("rounds ")) {
            goOnTo(Integer.parseInt(row.substring(7)));
        } else if (row.equals("keep")) {
            kept = ask("digest");
        } else if (row.equals("same")) {
            check.due("digest(), as it was kept", ask("digest"), kept);
        } else {
            Matcher m = ROW.matcher(row);
            if (m.matches()) {
                aCall(row, m);
            } else {
                check.isTrue("a row that can be read: " + row, false);
            }
        }
    }

    private void goOnTo(int round) {
        long now = ask("count", 2);
        for (int i = 0; i < 40 && now < round; i++) {
            ask("round", (int) Math.min(30, round - now));
            now = ask("count", 2);
        }
        check.due("count(2)", now, round);
    }

    private void aCall(String row, Matcher m) {
        String name = m.group(1);
        int[] values = valuesOf(m.group(2));
        String due = m.group(3);
        String reason = m.group(4) != null ? m.group(4) : due;
        int place = reason == null ? -1 : REASONS.indexOf(reason);
        boolean stays = place >= 0 || ASKING.contains(name);
        long before = stays ? ask("digest") : 0;
        long got = ask(name, values);
        if (due == null) {
            check.isTrue(row + " answered " + got + ", which should be no refusal", got >= -1);
        } else {
            check.due(row, got, valueOf(due));
        }
        if (stays) {
            check.due(row + ": what it leaves, by its digest", ask("digest"), before);
        }
        if (place >= 0) {
            refused[place]++;
            statusIsAsTold(row);
        }
    }

    private void statusIsAsTold(String row) {
        for (int what = 0; what < 3; what++) {
            check.due(row + ": status(" + what + ")", ask("status", what), refused[what]);
        }
    }

    private static int[] valuesOf(String told) {
        List<Integer> values = new ArrayList<>();
        for (String one : told.split(",")) {
            if (!one.isBlank()) {
                values.add((int) valueOf(one.strip()));
            }
        }
        return values.stream().mapToInt(Integer::intValue).toArray();
    }

    private static long valueOf(String told) {
        switch (told) {
            case "NONE": return -1;
            case "BAD": return -2;
            case "NO": return -3;
            case "FULL": return -4;
            case "MIN": return Integer.MIN_VALUE;
            case "MAX": return Integer.MAX_VALUE;
            default: return Long.parseLong(told);
        }
    }

    private long ask(String name, int... values) {
        calls++;
        Method m = face.get(name);
        if (m == null || m.getParameterCount() != values.length) {
            throw new IllegalStateException("no call " + name + " of " + values.length);
        }
        Object[] given = new Object[values.length];
        for (int i = 0; i < values.length; i++) {
            given[i] = values[i];
        }
        try {
            return ((Number) m.invoke(x, given)).longValue();
        } catch (InvocationTargetException e) {
            check.isTrue(name + java.util.Arrays.toString(values) + " threw " + e.getCause(), false);
            return Long.MIN_VALUE;
        } catch (IllegalAccessException e) {
            throw new IllegalStateException(e);
        }
    }
}
