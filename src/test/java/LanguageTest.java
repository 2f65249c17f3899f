import java.lang.reflect.Field;
import java.lang.reflect.Modifier;
import java.nio.file.Files;
import java.nio.file.Path;
import java.util.ArrayList;
import java.util.List;
import java.util.regex.Matcher;
import java.util.regex.Pattern;

/** What LANGUAGE.md forbids, as far as the text of the class shows it. */
public final class LanguageTest {
    // each with the number of its rule
    private static final String[] FORBIDDEN = {
        "1 \\bpackage\\b", "1 \\bimport\\b", "1 \\bprotected\\b", "2 ->", "2 ::", "3 \\bfloat\\b", "3 \\bLong\\b[^.]",
        "4 \\bDouble\\b", "4 \\w+Exact\\b", "4 \\bSystem\\b", "4 \\bObjects\\b", "4 \\bStream\\b", "4 \\bIterator\\b",
        "5 static\\s+(?!final)(int|long|boolean|char|String)(\\[\\])? \\w+\\s*[=;]", "5 static\\s*\\{",
        "6 \\btry\\b", "6 \\bcatch\\b", "6 \\bfinally\\b", "6 \\bassert\\b", "6 \\bsynchronized\\b",
        "6 \\bequals\\b", "6 \\bhashCode\\b", "6 \\btoString\\b", "6 \\binstanceof\\b",
        "6 throw new (?!(IllegalStateException|IllegalArgumentException|IndexOutOfBoundsException)\\(\")",
        "10 \"\\s*\\+", "10 \\+\\s*\"", "13 \\bMath\\.random\\b", "13 \\bThread\\b", "13 \\bnanoTime\\b",
    };

    public static void main(String[] args) throws Exception {
        String source = Files.readString(Path.of("src/main/java/WombatBowls.java"));
        for (char sign : source.toCharArray()) {
            Check.due("a sign of the source is 10 or 32 to 126", sign == 10 || sign >= 32 && sign <= 126, true);
        }
        String code = source.replaceAll("(?s)/\\*.*?\\*/", "").replaceAll("//[^\\n]*", "");
        for (String one : FORBIDDEN) {
            int space = one.indexOf(' ');
            Matcher found = Pattern.compile(one.substring(space + 1)).matcher(code);
            Check.due("rule " + one.substring(0, space) + " forbids " + one.substring(space + 1),
                found.find() ? found.group() : "nothing", "nothing");
        }
        checkLengths(source);
        checkParameters(code);
        checkClasses();
        Check.end("LanguageTest");
    }

    /** Rule 11: methods of some sixty lines; a method of the class or of one inside it begins 4 or 8 signs in. */
    private static void checkLengths(String source) {
        Matcher method = Pattern.compile("(?m)^( {4}| {8})(?! )[^\\n]*\\)[^\\n;]*\\{\\n(?s:.*?)^\\1\\}").matcher(source);
        int methods = 0;
        while (method.find()) {
            methods++;
            int lines = method.group().split("\n").length;
            Check.due("60 lines at the most: " + method.group().split("\n")[0], lines <= 60, true);
        }
        Check.due("methods were found", methods > 100, true);
    }

    /** Rule 11: seven parameters at the most. */
    private static void checkParameters(String code) {
        Matcher list = Pattern.compile("(?m)^ {4,8}(?! )[\\w\\[\\] ]+\\(([^)]*)\\)[^;\\n]*\\{").matcher(code);
        while (list.find()) {
            Check.due("seven parameters: " + list.group(), list.group(1).split(",").length <= 7, true);
        }
    }

    /** Rule 11: some twelve classes, and some twenty fields in each beside its constants; rule 5: static is final. */
    private static void checkClasses() {
        List<Class<?>> classes = new ArrayList<>(List.of(WombatBowls.class.getDeclaredClasses()));
        classes.add(WombatBowls.class);
        Check.due("twelve classes at the most", classes.size() <= 12, true);
        for (Class<?> each : classes) {
            int fields = 0;
            for (Field field : each.getDeclaredFields()) {
                boolean fixed = Modifier.isStatic(field.getModifiers());
                fields += fixed ? 0 : 1;
                Check.due(field + " is final", !fixed || Modifier.isFinal(field.getModifiers()), true);
            }
            Check.due("twenty fields at the most: " + each, fields <= 20, true);
        }
    }
}
