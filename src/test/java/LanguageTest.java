import java.io.IOException;
import java.lang.reflect.Method;
import java.lang.reflect.Modifier;
import java.nio.file.Files;
import java.nio.file.Path;
import java.util.ArrayList;
import java.util.List;
import java.util.Set;
import java.util.regex.Matcher;
import java.util.regex.Pattern;

/** The rules of ../shared/LANGUAGE.md that can be seen in the text of the program. */
public final class LanguageTest {
    private static final Path PROGRAM = Path.of("src/main/java/MailAgent.java");
    private static final int MOST_LINES = 60;
    private static final int MOST_CLASSES = 12;
    private static final int MOST_FIELDS = 20;
    private static final int MOST_PARAMETERS = 7;
    /** Rules 2, 4, 6, 10 and 13; the program has no need of texts and lists, which the rules would allow. */
    private static final String[] FORBIDDEN = {"\\bimport\\b", "\\bpackage\\b", "\\bthrows?\\b", "\\btry\\b",
        "\\bcatch\\b", "\\bfinally\\b", "\\bsynchronized\\b", "\\bassert\\b", "\\bprotected\\b", "\\bnative\\b", "->",
        "::", "@", "\"", "static\\s*\\{", "\\bequals\\b", "\\bhashCode\\b", "\\btoString\\b", "Exact\\b"};
    /** Rule 9. */
    private static final String[] ENDLESS = {"while\\s*\\(\\s*true", "for\\s*\\([^;]*;\\s*;", "\\bdo\\b"};
    private static final Set<String> LIBRARY = Set.of("Math", "Long");

    public static void main(String[] args) throws IOException {
        String source = withoutComments(Files.readString(PROGRAM));
        hasNone(source, FORBIDDEN);
        hasNone(source, ENDLESS);
        usesOnlyItsOwnClassesAndMath(source);
        methodsAreShort(source);
        classesAreFewAndSmall();
        Check.end();
    }

    private static String withoutComments(String source) {
        return source.replaceAll("(?s)/\\*.*?\\*/", "").replaceAll("//[^\n]*", "");
    }

    private static void hasNone(String source, String[] patterns) {
        for (String pattern : patterns) {
            Check.isTrue("the program has no " + pattern, !Pattern.compile(pattern).matcher(source).find());
        }
    }

    /** A name that begins with a capital and goes on with a small letter is that of a class. */
    private static void usesOnlyItsOwnClassesAndMath(String source) {
        Matcher names = Pattern.compile("\\b[A-Z][a-z]\\w*").matcher(source);
        while (names.find()) {
            String name = names.group();
            Check.isTrue("the program uses " + name, LIBRARY.contains(name) || ownClasses().contains(name));
        }
    }

    private static List<String> ownClasses() {
        List<String> names = new ArrayList<>();
        names.add(MailAgent.class.getSimpleName());
        for (Class<?> inside : MailAgent.class.getDeclaredClasses()) {
            names.add(inside.getSimpleName());
        }
        return names;
    }

    /** A method begins with a line that has parameters and opens a brace, outside of every other method. */
    private static void methodsAreShort(String source) {
        int methods = 0;
        int depth = 0;
        int startDepth = -1;
        int startLine = 0;
        String[] lines = source.split("\n");
        for (int i = 0; i < lines.length; i++) {
            boolean begins = lines[i].endsWith(") {") && startDepth < 0;
            if (begins) {
                startDepth = depth;
                startLine = i;
                methods++;
            }
            depth += bracesIn(lines[i], '{') - bracesIn(lines[i], '}');
            if (startDepth >= 0 && depth == startDepth) {
                Check.isTrue("not too long: " + lines[startLine], i - startLine + 1 <= MOST_LINES);
                startDepth = -1;
            }
        }
        Check.isTrue("methods were found", methods > MailAgent.class.getDeclaredMethods().length);
    }

    private static int bracesIn(String line, char brace) {
        return (int) line.chars().filter(character -> character == brace).count();
    }

    private static void classesAreFewAndSmall() {
        List<Class<?>> classes = new ArrayList<>(List.of(MailAgent.class.getDeclaredClasses()));
        classes.add(MailAgent.class);
        Check.isTrue("not too many classes", classes.size() <= MOST_CLASSES);
        for (Class<?> owner : classes) {
            long fields = List.of(owner.getDeclaredFields()).stream()
                .filter(field -> !Modifier.isStatic(field.getModifiers())).count();
            Check.isTrue("not too many fields in " + owner, fields <= MOST_FIELDS);
            for (Method method : owner.getDeclaredMethods()) {
                Check.isTrue("not too many parameters: " + method, method.getParameterCount() <= MOST_PARAMETERS);
            }
        }
    }
}
