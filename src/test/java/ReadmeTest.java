import java.io.IOException;
import java.lang.reflect.Method;
import java.nio.charset.StandardCharsets;
import java.nio.file.Files;
import java.nio.file.Path;
import java.util.HashMap;
import java.util.Map;
import java.util.regex.Matcher;
import java.util.regex.Pattern;

/** What README.md shows holds: its Java examples, line by line, and that it names each call with its numbers. */
public final class ReadmeTest {
    private static final Pattern BLOCK = Pattern.compile("(?s)```java\\n(.*?)```");
    private static final Pattern NEW = Pattern.compile("DogsPostman x = new DogsPostman\\(\\);");
    private static final Pattern TYPED =
        Pattern.compile("for \\(char b : \"([^\"]*)\"\\.toCharArray\\(\\)\\) x\\.type\\(b\\);");
    private static final Pattern CALL =
        Pattern.compile("x\\.(\\w+)\\(([^)]*)\\);\\s*// (-?\\d+|NONE|BAD|NO|FULL)(:.*)?");

    private static long answer(String told) {
        switch (told) {
            case "NONE": return DogsPostman.NONE;
            case "BAD": return DogsPostman.BAD;
            case "NO": return DogsPostman.NO;
            case "FULL": return DogsPostman.FULL;
            default: return Long.parseLong(told);
        }
    }

    private static Map<String, Method> face() {
        Map<String, Method> face = new HashMap<>();
        for (Method m : DogsPostman.class.getDeclaredMethods()) {
            if (java.lang.reflect.Modifier.isPublic(m.getModifiers())) {
                face.put(m.getName(), m);
            }
        }
        return face;
    }

    private static long ask(Method m, DogsPostman x, String told) throws ReflectiveOperationException {
        Object[] given = new Object[m.getParameterCount()];
        String[] values = told.isBlank() ? new String[0] : told.split(",");
        if (values.length != given.length) {
            throw new IllegalStateException(m.getName() + " is not given " + values.length);
        }
        for (int i = 0; i < given.length; i++) {
            given[i] = Integer.parseInt(values[i].strip());
        }
        return ((Number) m.invoke(x, given)).longValue();
    }

    private static void example(Check check, String block) throws ReflectiveOperationException {
        Map<String, Method> face = face();
        DogsPostman x = null;
        for (String line : block.split("\n")) {
            Matcher typed = TYPED.matcher(line);
            Matcher call = CALL.matcher(line);
            if (NEW.matcher(line).matches()) {
                x = new DogsPostman();
            } else if (x != null && typed.matches()) {
                Check.typeAll(x, typed.group(1));
            } else if (x != null && call.matches() && face.containsKey(call.group(1))) {
                check.due(line, ask(face.get(call.group(1)), x, call.group(2)), answer(call.group(3)));
            } else {
                check.isTrue("a line that can be read: " + line, false);
            }
        }
    }

    public static void main(String[] args) throws IOException, ReflectiveOperationException {
        Check check = new Check("ReadmeTest");
        check.promise(1, "README.md");
        String page = Files.readString(Path.of("README.md"), StandardCharsets.UTF_8);
        Matcher blocks = BLOCK.matcher(page);
        int examples = 0;
        while (blocks.find()) {
            example(check, blocks.group(1));
            examples++;
        }
        check.isTrue("some examples", examples >= 3);
        for (Method m : face().values()) {
            int numbers = m.getParameterCount();
            String given = numbers == 0 ? "" : "\\w+(, \\w+){" + (numbers - 1) + "}";
            check.isTrue("a row for " + m.getName(),
                Pattern.compile("\\| `" + m.getName() + "\\(" + given + "\\)` \\|").matcher(page).find());
        }
        try (var files = Files.list(Path.of("src/test/java"))) {
            for (Path file : files.toList()) {
                String name = file.getFileName().toString().replace(".java", "");
                check.isTrue("a row for " + name, !name.endsWith("Test") || page.contains("| " + name + " |"));
            }
        }
        check.end();
    }
}
