import java.io.IOException;
import java.lang.reflect.Constructor;
import java.lang.reflect.Field;
import java.lang.reflect.Method;
import java.lang.reflect.Modifier;
import java.nio.file.Files;
import java.nio.file.Path;
import java.util.Arrays;
import java.util.List;
import java.util.Set;
import java.util.TreeSet;
import java.util.regex.Matcher;
import java.util.regex.Pattern;

/** The face of the document, and what of LANGUAGE.md the class and its text show. Runs where .ci/run runs it. */
public final class LanguageTest {
    private static final Due due = new Due();
    private static final List<String> FACE = Arrays.asList(
            "int lake(int, int)", "int ice(int, int)", "int square(int, int)", "int fish(int)",
            "int write(int, int, int, int, int, int)", "int about(int, int)", "int as(int, int)", "int saw(int)",
            "int letters(long)", "int blank()", "int fault()", "int days()", "int needed(int, int)", "int bears(int)",
            "int owes(int, int, boolean)", "int rest(int)", "int sledges(int, int, int)", "int settled(int)",
            "int skate(int, int, int)", "long odds(int, int, int, int, int)", "int winter(int, int, int)",
            "int image()", "int restore()", "int count(int)", "long digest()");

    public static void main(String[] args) throws IOException {
        face();
        members(NamesOnIce.class);
        int classes = 1;
        for (Class<?> inside : NamesOnIce.class.getDeclaredClasses()) {
            classes++;
            due.is("rule 2 static: " + inside, Modifier.isStatic(inside.getModifiers()) ? 1 : 0, 1);
            members(inside);
        }
        due.is("rule 11 at most twelve classes", classes <= 12 ? 1 : 0, 1);
        text(Files.readString(Path.of("src/main/java/NamesOnIce.java")));
        due.end();
    }

    private static void face() {
        Set<String> got = new TreeSet<>();
        Set<String> names = new TreeSet<>();
        for (Method method : NamesOnIce.class.getDeclaredMethods()) {
            if (!Modifier.isPrivate(method.getModifiers())) {
                String text = method.toString().replace("NamesOnIce.", "").replace(",", ", ");
                got.add(text.replace("public ", ""));
                names.add(method.getName());
            }
        }
        due.is("rule 1 methods " + got, got.equals(new TreeSet<>(FACE)) ? 1 : 0, 1);
        for (Method method : NamesOnIce.class.getDeclaredMethods()) {
            boolean hidden = Modifier.isPrivate(method.getModifiers());
            due.is("rule 1 name of " + method, hidden && names.contains(method.getName()) ? 1 : 0, 0);
        }
        for (Class<?> inside : NamesOnIce.class.getDeclaredClasses()) {
            for (Method method : inside.getDeclaredMethods()) {
                due.is("rule 1 name of " + method, names.contains(method.getName()) ? 1 : 0, 0);
            }
        }
        int open = 0;
        for (Field field : NamesOnIce.class.getDeclaredFields()) {
            open += Modifier.isPrivate(field.getModifiers()) ? 0 : 1;
        }
        due.is("rule 1 constants", open, 5);
        Constructor<?>[] made = NamesOnIce.class.getDeclaredConstructors();
        due.is("rule 1 one constructor", made.length, 1);
        due.is("rule 1 final", Modifier.isFinal(NamesOnIce.class.getModifiers()) ? 1 : 0, 1);
    }

    private static void members(Class<?> c) {
        int held = 0;
        for (Field field : c.getDeclaredFields()) {
            boolean fixed = Modifier.isStatic(field.getModifiers());
            held += fixed ? 0 : 1;
            due.is("rule 5 final: " + field, fixed && !Modifier.isFinal(field.getModifiers()) ? 1 : 0, 0);
        }
        due.is("rule 11 fields of " + c, held <= 20 ? 1 : 0, 1);
        for (Method method : c.getDeclaredMethods()) {
            due.is("rule 11 parameters of " + method, method.getParameterCount() <= 7 ? 1 : 0, 1);
        }
    }

    private static void text(String source) {
        String code = source.replaceAll("(?s)/\\*.*?\\*/", " ").replaceAll("//[^\n]*", " ");
        String[] none = {"\\bimport\\b", "\\bpackage\\b", "\\bthrow\\b", "\\btry\\b", "\\bcatch\\b", "\\bassert\\b",
            "\\bsynchronized\\b", "->", "::", "\\bSystem\\.(?!arraycopy)", "\\bThread\\b", "\\bObject\\b",
            "\\b\\w+Exact\\b", "\\bvar\\b", "\\bstatic\\s*\\{", "\\.equals\\b", "\\bhashCode\\b", "\\btoString\\b"};
        for (String word : none) {
            due.is("rules 3 to 6 word " + word, Pattern.compile(word).matcher(code).find() ? 1 : 0, 0);
        }
        due.is("signs 1 to 127", source.chars().allMatch(c -> c < 128) ? 1 : 0, 1);
        Matcher made = Pattern.compile("\\n( +)[^\\n=]*\\) \\{\\n(.*?)\\n\\1\\}", Pattern.DOTALL).matcher(code);
        while (made.find()) {
            due.is("rule 11 lines", made.group(2).split("\n").length <= 60 ? 1 : 0, 1);
        }
    }
}
