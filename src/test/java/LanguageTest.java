import java.io.IOException;
import java.nio.file.Files;
import java.nio.file.Path;
import java.util.ArrayDeque;
import java.util.Deque;
import java.util.regex.Matcher;
import java.util.regex.Pattern;

/** The rules of LANGUAGE.md that can be seen in the words of the source. */
public final class LanguageTest {
    private static final String[][] FORBIDDEN = {
        {"1", "\\bprotected\\b"},
        {"1", "\\bpackage\\b"},
        {"2", "->"},
        {"2", "::"},
        {"4", "\\bimport\\b"},
        {"4", "\\bjava\\."},
        {"4", "Exact\\b"},
        {"4", "\\bMath\\.(?!min\\b|max\\b|abs\\b|floorDiv\\b|floorMod\\b)"},
        {"4", "\\bSystem\\.(?!arraycopy\\b)"},
        {"5", "\\bstatic\\s*\\{"},
        {"5", "\\bstatic (?!final\\b)[\\w\\[\\]]+ \\w+\\s*[=;]"},
        {"6", "\\b(throw|throws|try|catch|finally|synchronized|assert|volatile|native|yield)\\b"},
        {"6", "\\b(equals|hashCode|toString)\\s*\\("},
        {"9", "\\bwhile\\s*\\(\\s*true\\s*\\)"},
        {"9", "\\bfor\\s*\\(\\s*;"},
        {"13", "\\b(Random|Thread|Instant|Date|nanoTime|currentTimeMillis)\\b"},
    };
    private static final int MOST_LINES = 60;
    private static final int MOST_PARAMETERS = 7;
    private static final int MOST_CLASSES = 12;
    private static final int MOST_FIELDS = 20;

    private static int wrong = 0;

    public static void main(String[] args) throws IOException {
        String source = Files.readString(Path.of("src/main/java/CarbonSheets.java"));
        String code = source.replaceAll("(?s)/\\*.*?\\*/", " ").replaceAll("//[^\n]*", "").replaceAll("'[^']*'", "' '");
        for (String[] rule : FORBIDDEN) {
            Matcher found = Pattern.compile(rule[1]).matcher(code);
            due(!found.find(), "rule " + rule[0] + ": " + rule[1] + " stands in the source");
        }
        objectsAreMadeByConstructors(code);
        methodsAreShort(code);
        classesAreFew();
        System.out.println(wrong == 0 ? "the language is as due" : wrong + " things of the language are not as due");
        if (wrong != 0) {
            System.exit(1);
        }
    }

    private static void due(boolean good, String complaint) {
        if (!good) {
            wrong++;
            System.out.println(complaint);
        }
    }

    /** No call may make an object: each 'new' is a field's or stands in a constructor. */
    private static void objectsAreMadeByConstructors(String code) {
        Deque<String> blocks = new ArrayDeque<>();
        for (String line : code.split("\n")) {
            if (Pattern.compile("\\bnew\\b").matcher(line).find()) {
                boolean inMethod = blocks.stream().anyMatch(block -> block.matches(".*\\b(int|boolean|void|long|char) \\w+\\(.*"));
                due(!inMethod, "rule 12: a call makes an object: " + line.trim());
            }
            for (char sign : line.toCharArray()) {
                if (sign == '{') {
                    blocks.push(line);
                } else if (sign == '}') {
                    blocks.pop();
                }
            }
        }
    }

    private static void methodsAreShort(String code) {
        Matcher method = Pattern.compile("(?m)^( +)(?:public |private |static )*\\w+ \\w+\\(([^)]*)\\) \\{$").matcher(code);
        while (method.find()) {
            int end = code.indexOf("\n" + method.group(1) + "}", method.end());
            long lines = code.substring(method.start(), end).lines().count();
            due(lines <= MOST_LINES, "rule 11: too long: " + method.group().trim());
            due(method.group(2).split(",").length <= MOST_PARAMETERS, "rule 11: too many parameters: " + method.group().trim());
        }
    }

    private static void classesAreFew() {
        Class<?>[] inside = CarbonSheets.class.getDeclaredClasses();
        due(inside.length + 1 <= MOST_CLASSES, "rule 11: too many classes");
        for (Class<?> one : inside) {
            long fields = java.util.Arrays.stream(one.getDeclaredFields())
                .filter(field -> !java.lang.reflect.Modifier.isStatic(field.getModifiers())).count();
            due(fields <= MOST_FIELDS, "rule 11: too many fields in " + one);
        }
    }
}
