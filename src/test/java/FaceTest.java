import java.io.IOException;
import java.lang.reflect.Constructor;
import java.lang.reflect.Field;
import java.lang.reflect.Member;
import java.lang.reflect.Method;
import java.lang.reflect.Modifier;
import java.nio.file.Files;
import java.nio.file.Path;
import java.util.ArrayList;
import java.util.Arrays;
import java.util.List;
import java.util.Set;
import java.util.TreeSet;
import java.util.regex.Pattern;

/** The document's face, the rules of LANGUAGE.md that can be seen from outside, and arguments of all sizes. */
public final class FaceTest {
    private static final Check CHECK = new Check("FaceTest");

    private static final String[] FACE = {
        "boolean back()", "boolean mean(int, boolean)", "boolean mode(int)", "boolean name(int, int, boolean)",
        "boolean span(int, int, int)", "int count(int)", "int ends(int, int)", "int first(int, int)",
        "int judge(int)", "int listed(int)", "int mend()", "int need(int)", "int over(int)", "int price()",
        "int run(int, int, int)", "int shown(int)", "int step(int, int, int, int)", "int turned(int)",
    };

    private static final String[] FORBIDDEN = {
        "throw", "throws", "try", "catch", "finally", "synchronized", "assert", "package", "volatile", "native",
        "protected", "\\w+Exact", "->", "::", "System", "Object", "Random", "Thread", "hashCode", "toString",
    };

    private static final int[] SIZES = {
        Integer.MIN_VALUE, Integer.MIN_VALUE + 1, -100001, -1, 0, 1, 2, 5, 6, 7, 8, 9, 12, 23, 24, 25, 31, 32,
        100001, Integer.MAX_VALUE - 1, Integer.MAX_VALUE,
    };

    public static void main(String[] args) throws ReflectiveOperationException, IOException {
        face();
        none();
        sizes();
        privateNames();
        source();
        anyArguments(new SumsOver());
        anyArguments(full());
        CHECK.end();
    }

    private static boolean hidden(Member member) {
        return Modifier.isPrivate(member.getModifiers()) || member.isSynthetic();
    }

    private static void face() {
        Class<?> c = SumsOver.class;
        CHECK.due("public and final", c.getModifiers(), Modifier.PUBLIC | Modifier.FINAL);
        Set<String> seen = new TreeSet<>();
        for (Method m : c.getDeclaredMethods()) {
            if (!hidden(m)) {
                CHECK.due(m + " is public and no more", m.getModifiers(), Modifier.PUBLIC);
                String types = Arrays.toString(m.getParameterTypes());
                seen.add(m.getReturnType() + " " + m.getName() + "(" + types.substring(1, types.length() - 1) + ")");
            }
        }
        CHECK.due("methods as told: " + seen, seen.equals(new TreeSet<>(Arrays.asList(FACE))), true);
        CHECK.due("constructors", c.getDeclaredConstructors().length, 1);
        for (Constructor<?> k : c.getDeclaredConstructors()) {
            CHECK.due(k + " takes nothing", k.getParameterCount(), 0);
            CHECK.due(k + " is public and no more", k.getModifiers(), Modifier.PUBLIC);
        }
        for (Field f : c.getDeclaredFields()) {
            CHECK.due(f + " is hidden", hidden(f), !f.getName().equals("NONE"));
        }
    }

    private static void none() throws ReflectiveOperationException {
        Field none = SumsOver.class.getDeclaredField("NONE");
        CHECK.due("NONE is an int", none.getType() == int.class, true);
        CHECK.due("NONE is a constant", none.getModifiers(), Modifier.PUBLIC | Modifier.STATIC | Modifier.FINAL);
        CHECK.due("NONE", none.getInt(null), -1);
    }

    /** Rules 2, 5 and 11, as far as a class shows them once it is compiled. */
    private static void sizes() {
        List<Class<?>> all = new ArrayList<>(List.of(SumsOver.class.getDeclaredClasses()));
        all.add(SumsOver.class);
        CHECK.due("some twelve classes", all.size() <= 12, true);
        for (Class<?> c : all) {
            int fields = 0;
            for (Field f : c.getDeclaredFields()) {
                boolean isStatic = Modifier.isStatic(f.getModifiers());
                CHECK.due(f + " is final if static", isStatic && !Modifier.isFinal(f.getModifiers()), false);
                fields += isStatic ? 0 : 1;
            }
            CHECK.due(c + " has some twenty fields", fields <= 20, true);
            CHECK.due(c + " has no class within a class within it", c.getDeclaredClasses().length > 0,
                c == SumsOver.class);
            for (Method m : c.getDeclaredMethods()) {
                CHECK.due(m + " takes at most seven", m.getParameterCount() <= 7, true);
            }
        }
    }

    private static void privateNames() {
        Set<String> told = new TreeSet<>();
        for (Method m : SumsOver.class.getMethods()) {
            told.add(m.getName());
        }
        for (Class<?> c : SumsOver.class.getDeclaredClasses()) {
            CHECK.due(c + " is static", Modifier.isStatic(c.getModifiers()), true);
            for (Method m : c.getDeclaredMethods()) {
                CHECK.due(m + " has a name of its own", told.contains(m.getName()), false);
            }
        }
        for (Method m : SumsOver.class.getDeclaredMethods()) {
            CHECK.due(m + " has a name of its own", hidden(m) && told.contains(m.getName()), false);
        }
    }

    private static void source() throws IOException {
        String text = Files.readString(Path.of("src/main/java/SumsOver.java"));
        String code = text.replaceAll("(?s)/\\*.*?\\*/", " ").replaceAll("//[^\n]*", " ");
        for (String word : FORBIDDEN) {
            boolean isWord = Character.isLetter(word.charAt(0)) || word.charAt(0) == '\\';
            String pattern = isWord ? "\\b" + word + "\\b" : word;
            CHECK.due("the source has " + word, Pattern.compile(pattern).matcher(code).find(), false);
        }
    }

    private static SumsOver full() {
        SumsOver s = new SumsOver();
        s.span(0, -100000, -99969);
        s.span(1, 99969, 100000);
        s.name(0, 31, true);
        s.name(1, 31, false);
        s.step(8, 0, 0, 12);
        for (int i = 0; i < 23; i++) {
            s.step(2 + i % 6, i % 6, i % 5, (i + 1) % 6);
        }
        return s;
    }

    /** None of these calls may throw; that is all that is asked of them here. */
    private static void anyArguments(SumsOver s) {
        for (int i : SIZES) {
            s.judge(i);
            s.over(i);
            s.shown(i);
            s.turned(i);
            s.need(i);
            s.listed(i);
            s.count(i);
            s.mean(i, true);
            for (int j : SIZES) {
                s.ends(i, j);
                s.first(i, j);
                for (int k : SIZES) {
                    s.run(i, j, k);
                }
            }
        }
        for (int i : SIZES) {
            s.mode(i);
            for (int j : SIZES) {
                s.name(i, j, (j & 1) == 0);
                for (int k : SIZES) {
                    s.span(i, j, k);
                    anyStep(s, i, j, k);
                }
            }
        }
        CHECK.due("an answer after all that", s.count(0) >= 0 && s.count(0) <= 24, true);
    }

    private static void anyStep(SumsOver s, int i, int j, int k) {
        for (int l : SIZES) {
            if (s.step(i, j, k, l) == 23) {
                s.price();
                s.judge(23);
                s.back();
            }
        }
    }
}
