import java.io.IOException;
import java.lang.reflect.Field;
import java.lang.reflect.Method;
import java.lang.reflect.Modifier;
import java.nio.file.Files;
import java.nio.file.Path;
import java.util.ArrayList;
import java.util.List;
import java.util.Set;
import java.util.TreeSet;
import java.util.regex.Matcher;
import java.util.regex.Pattern;

/**
 * The rules of ../shared/LANGUAGE.md that can be counted or looked up; each check names its rule.
 * The class holds no texts, so words like equals, which the rules leave for texts alone, are asked to be absent.
 */
public final class LanguageTest {
    private static final Path SOURCE = Path.of("src", "main", "java", "ForkedInvites.java");
    private static final Set<Class<?>> STATIC_TYPES = Set.of(int.class, long.class, boolean.class, char.class,
        String.class, int[].class, long[].class, char[].class, byte[].class);
    private static final String FUNCTIONS = "(Integer|Long|Math)\\.\\w+\\(|System\\.arraycopy\\(|Arrays\\.(copyOf|copyOfRange|fill)\\(|List\\.of\\(";

    public static void main(String[] args) throws IOException {
        List<Class<?>> classes = new ArrayList<>(List.of(ForkedInvites.class.getDeclaredClasses()));
        classes.add(ForkedInvites.class);
        Checks.due("rule 11: at most some twelve classes, not " + classes.size(), classes.size() <= 12, true);
        for (Class<?> c : classes) {
            noPrivateMethodIsNamedAsAPublicOne(c);
            fieldsAreOfTheKind(c);
            noClassIsInnerOrSeen(c);
        }
        String code = Files.readString(SOURCE).replaceAll("(?s)/\\*.*?\\*/", "").replaceAll("//[^\n]*", "");
        libraryIsAsListed(code);
        wordsAreNotUsed(code);
        methodsAreShort(code);
        Checks.end();
    }

    private static void noPrivateMethodIsNamedAsAPublicOne(Class<?> c) {
        Set<String> face = new TreeSet<>();
        for (Method m : ForkedInvites.class.getDeclaredMethods()) {
            if (Modifier.isPublic(m.getModifiers())) {
                face.add(m.getName());
            }
        }
        for (Method m : c.getDeclaredMethods()) {
            if (!Modifier.isPublic(m.getModifiers())) {
                Checks.due("rule 1: " + m + " is named as a public one", face.contains(m.getName()), false);
            }
            Checks.due("rule 11: at most seven parameters in " + m, m.getParameterCount() <= 7, true);
        }
    }

    private static void fieldsAreOfTheKind(Class<?> c) {
        int own = 0;
        for (Field f : c.getDeclaredFields()) {
            if (Modifier.isStatic(f.getModifiers())) {
                Checks.due("rule 5: final: " + f, Modifier.isFinal(f.getModifiers()), true);
                Checks.due("rule 5: of a listed type: " + f, STATIC_TYPES.contains(f.getType()), true);
            } else {
                own++;
            }
        }
        Checks.due("rule 11: some twenty fields in " + c + ", not " + own, own <= 20, true);
    }

    private static void noClassIsInnerOrSeen(Class<?> c) {
        if (c != ForkedInvites.class) {
            int m = c.getModifiers();
            Checks.due("rule 2: static: " + c, Modifier.isStatic(m), true);
            Checks.due("rule 1: public or protected: " + c, Modifier.isPublic(m) || Modifier.isProtected(m), false);
        }
    }

    private static void libraryIsAsListed(String code) {
        Checks.due("rule 4: another import", Pattern.compile("\\bimport (?!java\\.util\\.(Array)?List;|java\\.util\\.(Arrays|Iterator);)").matcher(code).find(), false);
        Matcher used = Pattern.compile("\\b(Integer|Long|Math|System|Arrays|List|Character|Boolean|Byte|Short|Objects)\\.\\w+\\W").matcher(code);
        while (used.find()) {
            Checks.due("rule 4: a listed function: " + used.group(), used.group().matches(FUNCTIONS), true);
            Checks.due("rule 4: ends in Exact: " + used.group(), used.group().contains("Exact"), false);
        }
    }

    private static void wordsAreNotUsed(String code) {
        for (String word : List.of("throw", "throws", "try", "catch", "synchronized", "assert", "equals", "hashCode", "toString")) {
            Checks.due("rule 6: " + word, Pattern.compile("\\b" + word + "\\b").matcher(code).find(), false);
        }
        for (String sign : List.of("->", "::")) {
            Checks.due("rule 2: " + sign, code.contains(sign), false);
        }
    }

    /** A method begins with a line that ends in a brace behind its parameters, and ends with a brace at the same depth. */
    private static void methodsAreShort(String code) {
        String[] lines = code.split("\n");
        for (int i = 0; i < lines.length; i++) {
            Matcher head = Pattern.compile("( {4}| {8})\\w[^=]*\\) \\{").matcher(lines[i]);
            if (head.matches()) {
                int last = i;
                while (!lines[last].equals(head.group(1) + "}")) {
                    last++;
                }
                Checks.due("rule 11: some sixty lines: " + lines[i].trim(), last - i < 60, true);
            }
        }
    }
}
