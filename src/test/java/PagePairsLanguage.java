import java.io.IOException;
import java.lang.reflect.Constructor;
import java.lang.reflect.Field;
import java.lang.reflect.Method;
import java.lang.reflect.Modifier;
import java.nio.file.Files;
import java.nio.file.Path;
import java.util.Set;
import java.util.TreeSet;
import java.util.regex.Matcher;
import java.util.regex.Pattern;

/** The face of the class, and those rules of LANGUAGE.md that its source or its members show. */
public final class PagePairsLanguage {
    private static final Set<String> FACE = new TreeSet<>(Set.of("write/3", "tick/1", "cut/0", "on/0", "turn/0",
            "clean/1", "erase/1", "slow/2", "set/2", "read/1", "placeOf/2", "pageOf/3", "backupOf/3", "waits/2",
            "count/1", "wouldLose/1", "doneIn/0", "undo/0", "type/1", "clearText/0", "fault/1", "play/0"));
    private static final Set<String> CONSTANTS =
            new TreeSet<>(Set.of("INVALID_ARGUMENT", "NOT_POSSIBLE", "LIMIT_REACHED", "NOT_FOUND"));
    private static final String[] FORBIDDEN = {"\\bthrow\\b", "\\btry\\b", "\\bcatch\\b", "\\bsynchronized\\b",
        "\\bassert\\b", "\\bimport\\b", "->", "::", "\\bequals\\b", "\\bhashCode\\b", "\\btoString\\b", "\\bnative\\b",
        "\\bstatic\\s*\\{", "Exact\\b", "\\bThread\\b", "\\bcurrentTimeMillis\\b", "\\bnanoTime\\b", "\\bprotected\\b"};

    private static int wrong = 0;

    public static void main(String[] args) throws IOException {
        checkFace();
        for (Class<?> inside : PagePairs.class.getDeclaredClasses()) {
            checkInside(inside);
        }
        checkSource(Files.readString(Path.of("src/main/java/PagePairs.java")));
        System.out.println(wrong == 0 ? "the face and the language are kept" : wrong + " rules are broken");
        if (wrong != 0) {
            System.exit(1);
        }
    }

    private static void need(boolean holds, String rule) {
        if (!holds) {
            wrong++;
            System.out.println("broken: " + rule);
        }
    }

    private static void checkFace() {
        need(Modifier.isFinal(PagePairs.class.getModifiers()), "the class is final");
        Set<String> methods = new TreeSet<>();
        for (Method method : PagePairs.class.getDeclaredMethods()) {
            String name = method.getName() + "/" + method.getParameterCount();
            if (Modifier.isPublic(method.getModifiers())) {
                methods.add(name);
                need(method.getReturnType() == int.class, name + " returns an int");
                need(!Modifier.isStatic(method.getModifiers()), name + " is no static method");
            } else {
                need(Modifier.isPrivate(method.getModifiers()), name + " is private");
                need(!isOfFace(method.getName()), name + " does not bear a public one's name");
            }
        }
        need(methods.equals(FACE), "the public methods are those of the document: " + methods);
        Set<String> constants = new TreeSet<>();
        for (Field field : PagePairs.class.getDeclaredFields()) {
            if (Modifier.isPublic(field.getModifiers())) {
                constants.add(field.getName());
            } else {
                need(Modifier.isPrivate(field.getModifiers()), field.getName() + " is private");
            }
            need(Modifier.isFinal(field.getModifiers()), field.getName() + " is final");
        }
        need(constants.equals(CONSTANTS), "the public constants are those of the document: " + constants);
        Constructor<?>[] constructors = PagePairs.class.getDeclaredConstructors();
        need(constructors.length == 1 && constructors[0].getParameterCount() == 0, "one constructor");
    }

    private static boolean isOfFace(String name) {
        return FACE.stream().anyMatch(method -> method.startsWith(name + "/"));
    }

    private static void checkInside(Class<?> inside) {
        String name = inside.getSimpleName();
        need(Modifier.isStatic(inside.getModifiers()), name + " is static");
        int fields = 0;
        for (Field field : inside.getDeclaredFields()) {
            if (Modifier.isStatic(field.getModifiers())) {
                need(Modifier.isFinal(field.getModifiers()), name + "'s static fields are final");
            } else {
                fields++;
            }
        }
        need(fields <= 20, name + " has at most twenty fields");
        for (Method method : inside.getDeclaredMethods()) {
            need(method.getParameterCount() <= 7, name + "." + method.getName() + " has at most seven parameters");
            need(!isOfFace(method.getName()), name + "." + method.getName() + " does not bear a public one's name");
        }
        need(inside.getDeclaredClasses().length == 0, name + " has no classes inside");
    }

    private static void checkSource(String source) {
        String code = source.replaceAll("(?s)/\\*.*?\\*/", "").replaceAll("//[^\n]*", "");
        for (String forbidden : FORBIDDEN) {
            Matcher matcher = Pattern.compile(forbidden).matcher(code);
            need(!matcher.find(), "no " + forbidden);
        }
        need(PagePairs.class.getDeclaredClasses().length < 12, "at most twelve classes");
        int lines = 0;
        String method = "";
        for (String line : code.split("\n")) {
            if (line.matches(" {4,8}[\\w\\[\\] ]+\\(.*\\) \\{")) {
                method = line.trim();
                lines = 0;
            }
            lines++;
            need(!line.matches(" {4,8}}") || lines <= 60 || method.isEmpty(), "at most sixty lines: " + method);
            if (line.matches(" {4,8}}")) {
                method = "";
            }
        }
    }
}
