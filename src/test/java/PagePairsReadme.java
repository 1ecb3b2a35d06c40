import java.io.IOException;
import java.lang.reflect.Field;
import java.lang.reflect.Method;
import java.lang.reflect.Modifier;
import java.nio.file.Files;
import java.nio.file.Path;
import java.util.Map;
import java.util.Set;
import java.util.TreeMap;
import java.util.TreeSet;
import java.util.regex.Matcher;
import java.util.regex.Pattern;

/** README.md names each call and error as the class has it, and its examples answer as it says. */
public final class PagePairsReadme {
    private static final Pattern BLOCK = Pattern.compile("(?s)```java\n(.*?)```");
    private static final Pattern ROW = Pattern.compile("(?m)^\\| `(\\w+)\\(([^)]*)\\)` \\|(.*)\\|$");
    private static final Pattern CONSTANT = Pattern.compile("(?m)^- `(\\w+)` \\((-\\d+)\\): ");
    private static final Pattern CALL = Pattern.compile("x\\.(\\w+)\\((.*)\\); *// (-?\\d+|[A-Z_]+)(:.*)?");
    /** The errors that each call can return beside INVALID_ARGUMENT, as the document tells them. */
    private static final Map<String, String> ERRORS = new TreeMap<>(Map.ofEntries(
            Map.entry("write/3", "NOT_POSSIBLE LIMIT_REACHED"),
            Map.entry("tick/1", "NOT_POSSIBLE LIMIT_REACHED"),
            Map.entry("cut/0", "NOT_POSSIBLE"),
            Map.entry("on/0", "NOT_POSSIBLE"),
            Map.entry("turn/0", "NOT_POSSIBLE"),
            Map.entry("clean/1", "NOT_POSSIBLE LIMIT_REACHED"),
            Map.entry("erase/1", "NOT_POSSIBLE"),
            Map.entry("slow/2", ""),
            Map.entry("set/2", ""),
            Map.entry("read/1", "NOT_FOUND"),
            Map.entry("placeOf/2", "NOT_FOUND"),
            Map.entry("pageOf/3", "NOT_FOUND"),
            Map.entry("backupOf/3", "NOT_FOUND"),
            Map.entry("waits/2", "NOT_FOUND"),
            Map.entry("count/1", "NOT_FOUND"),
            Map.entry("wouldLose/1", "NOT_POSSIBLE"),
            Map.entry("doneIn/0", "NOT_POSSIBLE NOT_FOUND"),
            Map.entry("undo/0", "NOT_POSSIBLE"),
            Map.entry("type/1", "LIMIT_REACHED"),
            Map.entry("clearText/0", ""),
            Map.entry("fault/1", "NOT_FOUND"),
            Map.entry("play/0", "NOT_POSSIBLE")));

    private static int wrong = 0;

    public static void main(String[] args) throws IOException, ReflectiveOperationException {
        String page = Files.readString(Path.of("README.md"));
        checkRows(page);
        checkConstants(page);
        need(page.contains("```sh\n.ci/run\n```"), "the command that runs the tests is named");
        need(page.contains("```sh\njavac --release 17 -d build/program src/main/java/PagePairs.java\n```"),
                "the command that compiles the program is named");
        checkExamples(page);
        checkTests(page);
        System.out.println(wrong == 0 ? "README.md tells what is so" : wrong + " things in README.md are not so");
        if (wrong != 0) {
            System.exit(1);
        }
    }

    private static void need(boolean holds, String what) {
        if (!holds) {
            wrong++;
            System.out.println("README.md, not so: " + what);
        }
    }

    private static void checkRows(String page) {
        Map<String, String> errors = new TreeMap<>();
        Matcher row = ROW.matcher(page);
        while (row.find()) {
            int arguments = row.group(2).isEmpty() ? 0 : row.group(2).split(", ").length;
            errors.put(row.group(1) + "/" + arguments, errorsIn(row.group(3)));
            need(!row.group(3).split("\\|")[0].isBlank(), row.group(1) + " is described");
        }
        need(errors.equals(ERRORS), "each call once, with its errors: " + errors);
        need(errors.keySet().equals(callsOfClass()), "the calls are those of the class: " + callsOfClass());
    }

    private static Set<String> callsOfClass() {
        Set<String> calls = new TreeSet<>();
        for (Method method : PagePairs.class.getDeclaredMethods()) {
            if (Modifier.isPublic(method.getModifiers())) {
                calls.add(method.getName() + "/" + method.getParameterCount());
            }
        }
        return calls;
    }

    private static String errorsIn(String cells) {
        StringBuilder found = new StringBuilder();
        Matcher error = Pattern.compile("`([A-Z_]+)`:").matcher(cells);
        while (error.find()) {
            found.append(found.length() == 0 ? "" : " ").append(error.group(1));
        }
        return found.toString();
    }

    private static void checkConstants(String page) throws ReflectiveOperationException {
        Map<String, String> named = new TreeMap<>();
        Matcher line = CONSTANT.matcher(page);
        while (line.find()) {
            named.put(line.group(1), line.group(2));
        }
        Map<String, String> constants = new TreeMap<>();
        for (Field field : PagePairs.class.getDeclaredFields()) {
            if (Modifier.isPublic(field.getModifiers())) {
                constants.put(field.getName(), Integer.toString(field.getInt(null)));
            }
        }
        need(named.equals(constants), "the constants are " + constants);
    }

    private static void checkExamples(String page) throws ReflectiveOperationException {
        int calls = 0;
        Matcher block = BLOCK.matcher(page);
        while (block.find()) {
            PagePairs x = null;
            for (String line : block.group(1).split("\n")) {
                if (line.equals("PagePairs x = new PagePairs();")) {
                    x = new PagePairs();
                } else {
                    checkExample(x, line);
                    calls++;
                }
            }
        }
        need(calls >= 30, "there are examples");
    }

    private static void checkExample(PagePairs x, String line) throws ReflectiveOperationException {
        Matcher call = CALL.matcher(line);
        if (x == null || !call.matches()) {
            need(false, "a line of an example is a call with its answer: " + line);
            return;
        }
        String[] texts = call.group(2).isEmpty() ? new String[0] : call.group(2).split(", ");
        Class<?>[] types = new Class<?>[texts.length];
        Object[] arguments = new Object[texts.length];
        for (int i = 0; i < texts.length; i++) {
            types[i] = int.class;
            arguments[i] = texts[i].startsWith("'") ? texts[i].charAt(1) : Integer.parseInt(texts[i]);
        }
        int got = (Integer) PagePairs.class.getMethod(call.group(1), types).invoke(x, arguments);
        need(got == answer(call.group(3)), line + " (it answered " + got + ")");
    }

    private static int answer(String text) throws ReflectiveOperationException {
        return Character.isUpperCase(text.charAt(0)) ? PagePairs.class.getField(text).getInt(null)
                : Integer.parseInt(text);
    }

    private static void checkTests(String page) throws IOException {
        try (var files = Files.list(Path.of("src/test/java"))) {
            files.map(file -> file.getFileName().toString().replace(".java", ""))
                    .forEach(name -> need(page.contains("`" + name + "`"), name + " is named"));
        }
    }
}
