import java.lang.reflect.Array;
import java.lang.reflect.Constructor;
import java.lang.reflect.Field;
import java.lang.reflect.Method;
import java.lang.reflect.Modifier;
import java.nio.file.Files;
import java.nio.file.Path;
import java.util.ArrayList;
import java.util.Arrays;
import java.util.Collections;
import java.util.IdentityHashMap;
import java.util.List;
import java.util.Set;
import java.util.TreeSet;
import java.util.regex.Matcher;
import java.util.regex.Pattern;

/** The public face, and those rules of LANGUAGE.md that a look at the source can tell. */
public final class FaceTest {
    private static final Check CHECK = new Check("FaceTest");
    private static final String[] FACE = {
        "int addOffice(int,int) IllegalArgumentException,IllegalStateException",
        "int pass(int) IllegalArgumentException,IllegalStateException",
        "int today() ",
        "int complain(int,int,int,int) IndexOutOfBoundsException,IllegalArgumentException,IllegalStateException",
        "boolean setCourt(int,boolean) IndexOutOfBoundsException,UnsupportedOperationException",
        "boolean excuse(int) IndexOutOfBoundsException,UnsupportedOperationException",
        "int takeStep(int) IndexOutOfBoundsException,UnsupportedOperationException",
        "char examine(int) IndexOutOfBoundsException,UnsupportedOperationException",
        "char state(int) IndexOutOfBoundsException",
        "int countState(char) IllegalArgumentException",
        "int countOf(int) IllegalArgumentException",
        "int ask(int) IndexOutOfBoundsException,UnsupportedOperationException",
        "int extend(int,int) IndexOutOfBoundsException,IllegalArgumentException,UnsupportedOperationException",
        "int remind(int) IndexOutOfBoundsException,UnsupportedOperationException",
        "int answer(int) IndexOutOfBoundsException,UnsupportedOperationException",
        "int takeSilence(int) IndexOutOfBoundsException,UnsupportedOperationException",
        "boolean isOverdue(int) IndexOutOfBoundsException",
        "int nextDue() NoSuchElementException",
        "int join(int,int) IndexOutOfBoundsException,IllegalArgumentException,UnsupportedOperationException",
        "int part(int) IndexOutOfBoundsException,UnsupportedOperationException",
        "int lead(int) IndexOutOfBoundsException",
        "int countJoined(int) IndexOutOfBoundsException",
        "int setWeight(int,int) IllegalArgumentException",
        "int find(int,int) IndexOutOfBoundsException,IllegalArgumentException,UnsupportedOperationException",
        "int heads(int) IndexOutOfBoundsException,NoSuchElementException",
        "int remedy(int) IndexOutOfBoundsException,NoSuchElementException",
        "int accept(int,boolean) IndexOutOfBoundsException,UnsupportedOperationException",
        "boolean isAccepted(int) IndexOutOfBoundsException,NoSuchElementException",
        "int heed(int) IndexOutOfBoundsException,UnsupportedOperationException",
        "int followUp(int) IndexOutOfBoundsException,UnsupportedOperationException",
        "int withdraw(int) IndexOutOfBoundsException,UnsupportedOperationException",
        "int days(int) IndexOutOfBoundsException",
        "float heededShare(int) IndexOutOfBoundsException,ArithmeticException",
        "double meanDays() ArithmeticException",
        "long checksum() ",
        "boolean isSound() ",
    };

    public static void main(String[] args) throws Exception {
        Class<?> face = GrievanceOmbud.class;
        CHECK.is("public and final", face.getModifiers(), Modifier.PUBLIC | Modifier.FINAL);
        methods(face);
        members(face);
        sizes(face);
        source(Files.readString(Path.of(args[0])));
        methodLengths(Files.readAllLines(Path.of(args[0])));
        room();
        CHECK.end();
    }

    private static void methods(Class<?> face) {
        Set<String> got = new TreeSet<>();
        Set<String> names = new TreeSet<>();
        for (Method method : face.getDeclaredMethods()) {
            if (Modifier.isPublic(method.getModifiers())) {
                got.add(method.getReturnType() + " " + method.getName() + "("
                        + list(method.getParameterTypes()) + ") " + list(method.getExceptionTypes()));
                names.add(method.getName());
            }
        }
        CHECK.is("public methods", got.toString(), new TreeSet<>(Set.of(FACE)).toString());
        for (Class<?> inside : face.getDeclaredClasses()) {
            for (Method method : inside.getDeclaredMethods()) {
                CHECK.is(inside.getSimpleName() + " has a name of the face: " + method.getName(),
                        names.contains(method.getName()), false);
            }
        }
        for (Method method : face.getDeclaredMethods()) {
            if (!Modifier.isPublic(method.getModifiers())) {
                CHECK.is("private: " + method.getName(), Modifier.isPrivate(method.getModifiers()), true);
                CHECK.is("a name of the face: " + method.getName(), names.contains(method.getName()), false);
            }
        }
    }

    private static void members(Class<?> face) {
        Constructor<?>[] constructors = face.getDeclaredConstructors();
        CHECK.is("constructors", constructors.length, 1);
        CHECK.is("its numbers", constructors[0].getParameterCount(), 0);
        CHECK.is("it is public", constructors[0].getModifiers(), Modifier.PUBLIC);
        for (Field field : face.getDeclaredFields()) {
            CHECK.is("private: " + field.getName(), Modifier.isPrivate(field.getModifiers()), true);
        }
        for (Class<?> inside : face.getDeclaredClasses()) {
            int modifiers = inside.getModifiers();
            CHECK.is("static: " + inside, Modifier.isStatic(modifiers), true);
            CHECK.is("hidden: " + inside, Modifier.isPublic(modifiers) || Modifier.isProtected(modifiers), false);
        }
        CHECK.is("at most twelve classes", face.getDeclaredClasses().length <= 11, true);
    }

    /** Rule 5: what is static is final; rule 11: seven parameters at most, and some twenty fields. */
    private static void sizes(Class<?> face) {
        List<Class<?>> all = new ArrayList<>(Arrays.asList(face.getDeclaredClasses()));
        all.add(face);
        for (Class<?> type : all) {
            int fields = 0;
            for (Field field : type.getDeclaredFields()) {
                boolean fixed = Modifier.isStatic(field.getModifiers());
                fields += fixed ? 0 : 1;
                CHECK.is(field + " is static, and not final", fixed && !Modifier.isFinal(field.getModifiers()), false);
            }
            CHECK.is("fields of " + type.getSimpleName() + ": " + fields, fields <= 20, true);
            for (Method method : type.getDeclaredMethods()) {
                CHECK.is(method.getName() + " has seven parameters at most", method.getParameterCount() <= 7, true);
            }
        }
    }

    /** Rule 11: methods stay short. */
    private static void methodLengths(List<String> lines) {
        Pattern beginning = Pattern.compile("( +)(public|private) [^=;]*\\(.*");
        int methods = 0;
        for (int i = 0; i < lines.size(); i++) {
            Matcher matcher = beginning.matcher(lines.get(i));
            if (matcher.matches()) {
                int length = lines.subList(i, lines.size()).indexOf(matcher.group(1) + "}");
                CHECK.is("sixty lines at most: " + lines.get(i).trim(), length > 0 && length < 60, true);
                methods++;
            }
        }
        CHECK.is("methods were found", methods > 40, true);
    }

    /** "All calls of one run live in ONE room": 512 objects made anew must fit in it. */
    private static void room() {
        Set<Object> seen = Collections.newSetFromMap(new IdentityHashMap<>());
        long elements = countParts(new GrievanceOmbud(), seen);
        CHECK.is("512 times " + seen.size() + " objects and arrays", 512 * seen.size() < 600_000, true);
        CHECK.is("512 times " + elements + " fields and elements", 512 * elements < 7_300_000, true);
    }

    private static long countParts(Object x, Set<Object> seen) {
        if (x == null || x instanceof Number || x instanceof Boolean || x instanceof Character || !seen.add(x)) {
            return 0;
        }
        if (x.getClass().isArray()) {
            long count = Array.getLength(x);
            for (int i = 0; i < Array.getLength(x); i++) {
                count += countParts(Array.get(x, i), seen);
            }
            return count;
        }
        long count = 0;
        for (Field field : x.getClass().getDeclaredFields()) {
            if (!Modifier.isStatic(field.getModifiers())) {
                count += 1 + countParts(Check.get(field, x), seen);
            }
        }
        return count;
    }

    private static void source(String text) {
        String[] forbidden = {"->", "::", "\\bcatch\\b", "\\bfinally\\b", "\\bsynchronized\\b", "\\bassert\\b",
            "\\bpackage\\b", "\\bprotected\\b", "Exact\\b", "\\bObject\\b", "\\bRandom\\b", "\\bSystem\\b",
            "\\bThread\\b", "\" *\\+", "\\+ *\"", "\\bnull\\b", "\\.getClass\\b", "\\bhashCode\\b"};
        for (String pattern : forbidden) {
            Matcher matcher = Pattern.compile(pattern).matcher(text);
            CHECK.is("source holds " + pattern, matcher.find(), false);
        }
        Matcher imports = Pattern.compile("(?m)^import (.*);$").matcher(text);
        while (imports.find()) {
            CHECK.is("import", imports.group(1), "java.util.NoSuchElementException");
        }
        for (int i = 0; i < text.length(); i++) {
            if (text.charAt(i) > 126) {
                CHECK.is("a sign at " + i, text.charAt(i), ' ');
            }
        }
    }

    private static String list(Class<?>[] types) {
        StringBuilder text = new StringBuilder();
        for (Class<?> type : types) {
            text.append(text.length() == 0 ? "" : ",").append(type.getSimpleName());
        }
        return text.toString();
    }
}
