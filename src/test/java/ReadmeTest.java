import java.io.IOException;
import java.lang.reflect.InvocationTargetException;
import java.lang.reflect.Method;
import java.lang.reflect.Modifier;
import java.nio.charset.StandardCharsets;
import java.nio.file.DirectoryStream;
import java.nio.file.Files;
import java.nio.file.Path;
import java.util.List;
import java.util.Set;
import java.util.TreeMap;
import java.util.TreeSet;
import java.util.function.Supplier;
import java.util.regex.Matcher;
import java.util.regex.Pattern;

/** What README.md says: its run of calls, its calls and their errors, its tests, its commands. */
final class ReadmeTest {
    private static final List<String> ERRORS = List.of("NO_SUCH", "BAD_VALUE", "BAD_TEXT", "TOO_MANY", "NOT_POSSIBLE");
    private static final int[] NUMBERS = {Integer.MIN_VALUE, -1, 0, 1, 2, 5, 6, 15, 16, 1000, 65536, 100000,
        Integer.MAX_VALUE};
    private static final long[] CHARACTERS = {-1, 0, 32, 48, 0x3030303030303030L};
    // Between them a call can answer each of its errors.
    private static final List<Supplier<JoinedSketches>> SETUPS = List.of(JoinedSketches::new, Due::furnished,
        () -> Due.with("0!;".repeat(26) + "5"));

    public static void main(String[] args) throws IOException, InterruptedException, ReflectiveOperationException {
        String readme = Files.readString(Path.of("README.md"), StandardCharsets.UTF_8);
        runOfCalls(readme);
        callsAndErrors(readme, Files.readString(Path.of("src/main/java/JoinedSketches.java"), StandardCharsets.UTF_8));
        constants(readme);
        tests(readme);
        commands(readme);
        Due.end();
    }

    private static TreeMap<String, Method> face() {
        TreeMap<String, Method> face = new TreeMap<>();
        for (Method method : JoinedSketches.class.getDeclaredMethods()) {
            if (Modifier.isPublic(method.getModifiers())) {
                face.put(method.getName(), method);
            }
        }
        return face;
    }

    /** The rows "x.call(..); // answer", one after the other on one object. */
    private static void runOfCalls(String readme) throws ReflectiveOperationException {
        JoinedSketches x = new JoinedSketches();
        Set<String> seen = new TreeSet<>();
        Matcher rows = Pattern.compile("\nx\\.(\\w+)\\((.*)\\); +// (-?\\d+)\\b").matcher(readme);
        while (rows.find()) {
            Method method = face().get(rows.group(1));
            Due.is(rows.group(1) + "(" + rows.group(2) + ")", answer(x, method, arguments(method, rows.group(2))),
                Long.parseLong(rows.group(3)));
            seen.add(rows.group(1));
        }
        Due.is("rows of the run that have no answer", Pattern.compile("\nx\\.").splitAsStream(readme).count() - 1,
            rows.reset().results().count());
        Due.is("whether most of the calls stand in the run", seen.size() > 20 ? 1 : 0, 1);
    }

    private static Object[] arguments(Method method, String words) {
        String[] each = words.isEmpty() ? new String[0] : words.split(", ");
        Object[] arguments = new Object[each.length];
        for (int at = 0; at < each.length; at++) {
            long number = Long.decode(each[at].replaceFirst("L$", ""));
            arguments[at] = ofType(method.getParameterTypes()[at], number);
        }
        return arguments;
    }

    private static Object ofType(Class<?> type, long number) {
        if (type == long.class) {
            return number;
        }
        return (int) number;
    }

    private static long answer(JoinedSketches x, Method method, Object... arguments)
        throws IllegalAccessException, InvocationTargetException {
        return ((Number) method.invoke(x, arguments)).longValue();
    }

    /** Each method of the face has a row, with its parameters and all errors that its calls answer. */
    private static void callsAndErrors(String readme, String source) throws ReflectiveOperationException {
        TreeMap<String, String> told = new TreeMap<>();
        Matcher rows = Pattern.compile("\n\\| `(\\w+)\\(([^)]*)\\)` \\|[^|\n]*\\|([^|\n]*)\\|").matcher(readme);
        while (rows.find()) {
            told.put(rows.group(1), rows.group(2) + ":" + rows.group(3).trim());
        }
        for (Method method : face().values()) {
            Due.is("the row of " + method.getName(), told.getOrDefault(method.getName(), "none"),
                parameters(method, source) + ":" + errors(method));
        }
        Due.is("the rows of calls", told.size(), face().size());
    }

    /** As the source has them: a compiled class has lost their names. */
    private static String parameters(Method method, String source) {
        Matcher header = Pattern.compile("public (?:int|long) " + method.getName() + "\\(([^)]*)\\)").matcher(source);
        return header.find() ? header.group(1) : "not in the source";
    }

    private static String errors(Method method) throws ReflectiveOperationException {
        Set<Long> seen = new TreeSet<>();
        Object[] arguments = new Object[method.getParameterCount()];
        for (Supplier<JoinedSketches> setup : SETUPS) {
            tryAll(setup, method, arguments, 0, seen);
        }
        StringBuilder text = new StringBuilder();
        for (String error : ERRORS) {
            if (seen.contains(-1L - ERRORS.indexOf(error))) {
                text.append(text.length() == 0 ? "" : ", ").append('`').append(error).append('`');
            }
        }
        return text.toString();
    }

    private static void tryAll(Supplier<JoinedSketches> setup, Method method, Object[] arguments, int at,
        Set<Long> seen) throws ReflectiveOperationException {
        if (at == arguments.length) {
            seen.add(answer(setup.get(), method, arguments));
            return;
        }
        if (method.getParameterTypes()[at] == long.class) {
            for (long characters : CHARACTERS) {
                arguments[at] = characters;
                tryAll(setup, method, arguments, at + 1, seen);
            }
            return;
        }
        for (int number : NUMBERS) {
            arguments[at] = number;
            tryAll(setup, method, arguments, at + 1, seen);
        }
    }

    private static void constants(String readme) throws ReflectiveOperationException {
        Matcher rows = Pattern.compile("\n\\| `([A-Z_]+)` \\| (-\\d) \\|").matcher(readme);
        int found = 0;
        while (rows.find()) {
            found++;
            Due.is(rows.group(1), JoinedSketches.class.getField(rows.group(1)).getInt(null),
                Integer.parseInt(rows.group(2)));
        }
        Due.is("the rows of constants", found, JoinedSketches.class.getFields().length);
    }

    private static void tests(String readme) throws IOException {
        Set<String> told = new TreeSet<>();
        Matcher rows = Pattern.compile("\n\\| `(\\w+Test)` \\|").matcher(readme);
        while (rows.find()) {
            told.add(rows.group(1));
        }
        Set<String> there = new TreeSet<>();
        try (DirectoryStream<Path> files = Files.newDirectoryStream(Path.of("src/test/java"), "*Test.java")) {
            for (Path file : files) {
                there.add(file.getFileName().toString().replace(".java", ""));
            }
        }
        Due.is("the rows of tests", String.join(" ", told), String.join(" ", there));
    }

    /** Each block of commands ends well, but for .ci/run, which runs this test itself: that has to be there. */
    private static void commands(String readme) throws IOException, InterruptedException {
        Matcher blocks = Pattern.compile("```sh\n((?s:.*?))```").matcher(readme);
        int found = 0;
        while (blocks.find()) {
            found++;
            String block = blocks.group(1);
            if (block.trim().equals(".ci/run")) {
                Due.is("whether .ci/run can be run", Files.isExecutable(Path.of(".ci/run")) ? 1 : 0, 1);
            } else {
                Process shell = new ProcessBuilder("sh", "-e", "-c", block).redirectErrorStream(true).start();
                String said = new String(shell.getInputStream().readAllBytes(), StandardCharsets.UTF_8);
                Due.is("exit code of\n" + block + said, shell.waitFor(), 0);
            }
        }
        Due.is("blocks of commands", found, 2);
    }
}
