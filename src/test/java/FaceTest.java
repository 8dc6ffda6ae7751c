import java.lang.reflect.Field;
import java.lang.reflect.Method;
import java.lang.reflect.Modifier;
import java.util.Set;
import java.util.TreeSet;

/** The public face, and what of ../shared/LANGUAGE.md can be seen from outside; LanguageTest looks inside. */
public final class FaceTest {
    private static final String[] FACE = {
        "int village()", "int man(int,int)", "int dog(int,int,int,int)", "int type(int)", "int clear()",
        "int read()", "int bribe(int,int)", "int round(int)", "int undo()", "int of(int,int)",
        "int about(int,int)", "int bitten(int,int)", "int then(int,int)", "int won(int,int)", "int letters()",
        "int bribes(int,int)", "int still(int)", "int first(int,int)", "int slept(int,int,int,int)",
        "int note(int,int,int,int)", "int forget()", "int is(int)", "int send(int)", "int two(int,int,int)",
        "int strays(int,int)", "int villages(int,int)", "long part(int)", "int image(int)", "int from(int)",
        "int status(int)", "int count(int)", "long digest()",
    };

    private static String told(Method m) {
        StringBuilder s = new StringBuilder(m.getReturnType() + " " + m.getName() + "(");
        for (int i = 0; i < m.getParameterCount(); i++) {
            s.append(i == 0 ? "" : ",").append(m.getParameterTypes()[i]);
        }
        return s.append(")").toString();
    }

    private static void methods(Check check) {
        Set<String> face = new TreeSet<>(Set.of(FACE));
        Set<String> names = new TreeSet<>();
        Set<String> publics = new TreeSet<>();
        Set<String> others = new TreeSet<>();
        for (String f : FACE) {
            names.add(f.substring(f.indexOf(' ') + 1, f.indexOf('(')));
        }
        for (Method m : DogsPostman.class.getDeclaredMethods()) {
            if (Modifier.isPublic(m.getModifiers())) {
                publics.add(told(m));
                check.isTrue(m + " is no static one", !Modifier.isStatic(m.getModifiers()));
            } else {
                check.isTrue(m + " is private", Modifier.isPrivate(m.getModifiers()) || m.isSynthetic());
                others.add(m.getName());
            }
            check.isTrue(m + " takes seven at most", m.getParameterCount() <= 7);
        }
        check.isTrue("the public methods are the face's: " + publics, publics.equals(face));
        for (String name : others) {
            check.isTrue("private " + name + " bears no public one's name", !names.contains(name));
        }
    }

    private static void fields(Check check) {
        Set<String> constants = new TreeSet<>();
        for (Field f : DogsPostman.class.getDeclaredFields()) {
            int how = f.getModifiers();
            if (Modifier.isPublic(how)) {
                check.isTrue(f + " is a constant", Modifier.isStatic(how) && Modifier.isFinal(how));
                constants.add(f.getName());
            } else {
                check.isTrue(f + " is private", Modifier.isPrivate(how));
                check.isTrue(f + ": static ones are final", !Modifier.isStatic(how) || Modifier.isFinal(how));
            }
        }
        check.isTrue("the constants", constants.equals(new TreeSet<>(Set.of("NONE", "BAD", "NO", "FULL"))));
        check.due("NONE", DogsPostman.NONE, -1);
        check.due("BAD", DogsPostman.BAD, -2);
        check.due("NO", DogsPostman.NO, -3);
        check.due("FULL", DogsPostman.FULL, -4);
    }

    private static void classes(Check check) {
        check.isTrue("final", Modifier.isFinal(DogsPostman.class.getModifiers()));
        check.isTrue("public", Modifier.isPublic(DogsPostman.class.getModifiers()));
        check.due("constructors", DogsPostman.class.getDeclaredConstructors().length, 1);
        check.due("public constructors", DogsPostman.class.getConstructors().length, 1);
        check.isTrue("some twelve classes", DogsPostman.class.getDeclaredClasses().length <= 12);
        for (Class<?> c : DogsPostman.class.getDeclaredClasses()) {
            int how = c.getModifiers();
            check.isTrue(c + " is static", Modifier.isStatic(how));
            check.isTrue(c + " is not public", !Modifier.isPublic(how) && !Modifier.isProtected(how));
            int ownFields = 0;
            for (Field f : c.getDeclaredFields()) {
                check.isTrue(f + ": static ones are final",
                    !Modifier.isStatic(f.getModifiers()) || Modifier.isFinal(f.getModifiers()));
                ownFields += Modifier.isStatic(f.getModifiers()) ? 0 : 1;
            }
            check.isTrue(c + " has some twenty fields", ownFields <= 20);
        }
    }

    public static void main(String[] args) {
        Check check = new Check("FaceTest");
        methods(check);
        fields(check);
        classes(check);
        check.end();
    }
}
