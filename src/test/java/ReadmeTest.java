import java.lang.reflect.InvocationTargetException;
import java.lang.reflect.Method;
import java.lang.reflect.Modifier;
import java.nio.file.DirectoryStream;
import java.nio.file.Files;
import java.nio.file.Path;
import java.util.ArrayList;
import java.util.List;
import java.util.Map;
import java.util.TreeMap;
import java.util.regex.Matcher;
import java.util.regex.Pattern;

/** README.md tells each call of the face and each test, and its examples answer as it says. */
public final class ReadmeTest {
    private static final Check CHECK = new Check("ReadmeTest");
    private static final Pattern ROW = Pattern.compile("\\| `(\\w+)\\((.*?)\\)` \\| (.+?) \\|(.*)\\|");
    private static final Pattern EXAMPLE = Pattern.compile("ombud\\.(\\w+)\\((.*?)\\); +// (\\S+?)[,:;]?( .*)?");
    private static final Pattern NAME = Pattern.compile("`(\\w+Exception)`");

    public static void main(String[] args) throws Exception {
        List<String> lines = Files.readAllLines(Path.of("README.md"));
        rows(lines);
        examples(lines);
        tests(String.join("\n", lines));
        CHECK.end();
    }

    /** Each public method has one row, with as many numbers and the same exceptions in the same order. */
    private static void rows(List<String> lines) {
        Map<String, String> told = new TreeMap<>();
        for (String line : lines) {
            Matcher row = ROW.matcher(line);
            if (row.matches()) {
                String before = told.put(row.group(1), count(row.group(2)) + " " + names(row.group(4)));
                CHECK.is("rows of " + row.group(1) + " before this one", before == null, true);
            }
        }
        Map<String, String> due = new TreeMap<>();
        for (Method method : GrievanceOmbud.class.getDeclaredMethods()) {
            if (Modifier.isPublic(method.getModifiers())) {
                List<String> names = new ArrayList<>();
                for (Class<?> type : method.getExceptionTypes()) {
                    names.add(type.getSimpleName());
                }
                due.put(method.getName(), method.getParameterCount() + " " + names);
            }
        }
        CHECK.is("the rows", told.toString(), due.toString());
    }

    private static int count(String parameters) {
        return parameters.isEmpty() ? 0 : parameters.split(", ").length;
    }

    private static List<String> names(String cell) {
        List<String> names = new ArrayList<>();
        Matcher name = NAME.matcher(cell);
        while (name.find()) {
            names.add(name.group(1));
        }
        return names;
    }

    /** What stands first behind the two strokes of an example's line is what its call answers. */
    private static void examples(List<String> lines) throws Exception {
        GrievanceOmbud ombud = new GrievanceOmbud();
        int count = 0;
        for (String line : lines) {
            if (line.startsWith("ombud.")) {
                Matcher example = EXAMPLE.matcher(line);
                CHECK.is("an example can be read: " + line, example.matches(), true);
                CHECK.is(line, answerOf(ombud, example.group(1), example.group(2)), example.group(3));
                count++;
            }
        }
        CHECK.is("examples were found", count > 15, true);
    }

    private static String answerOf(GrievanceOmbud ombud, String name, String numbers) throws Exception {
        List<Object> values = new ArrayList<>();
        for (String number : numbers.isEmpty() ? new String[0] : numbers.split(", ")) {
            values.add(value(number));
        }
        for (Method method : GrievanceOmbud.class.getMethods()) {
            if (method.getName().equals(name) && method.getParameterCount() == values.size()) {
                try {
                    Object answer = method.invoke(ombud, values.toArray());
                    return answer instanceof Character ? "'" + answer + "'" : String.valueOf(answer);
                } catch (InvocationTargetException e) {
                    return e.getCause().getClass().getSimpleName();
                }
            }
        }
        return "no such call";
    }

    private static Object value(String text) {
        if (text.equals("true") || text.equals("false")) {
            return text.equals("true");
        }
        return text.startsWith("0b") ? Integer.parseInt(text.substring(2), 2) : Integer.parseInt(text);
    }

    private static void tests(String text) throws Exception {
        try (DirectoryStream<Path> files = Files.newDirectoryStream(Path.of("src/test/java"), "*.java")) {
            for (Path file : files) {
                String name = file.getFileName().toString().replace(".java", "");
                CHECK.is("told: " + name, Pattern.compile("`" + name + "\\b").matcher(text).find(), true);
            }
        }
    }
}
