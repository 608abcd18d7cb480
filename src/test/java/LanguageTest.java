import java.io.IOException;
import java.lang.reflect.Field;
import java.lang.reflect.Method;
import java.lang.reflect.Modifier;
import java.nio.file.Files;
import java.nio.file.Path;
import java.util.HashSet;
import java.util.List;
import java.util.Set;
import java.util.TreeSet;
import java.util.regex.Matcher;
import java.util.regex.Pattern;

/** The document's face, and those rules of LANGUAGE.md that can be seen without reading the code by eye. */
public final class LanguageTest {
    private static final Path SOURCE = Path.of("src/main/java/HoldQueue.java");
    private static final Set<String> FACE = Set.of(
            "int record(int)", "int copy(int,int)", "boolean bar(int,boolean)", "int hold(int,int,int,int)",
            "int most(int,int)", "int suspend(int,long)", "int back(int,int)", "int arrive(int)", "int pick(int)",
            "int lend(int)", "int cancel(int)", "int tick(long)", "int span(int)", "int rank(int,int)",
            "int order(int,int)", "int state(int,int)", "int where(int,int)");
    private static final List<String> BANNED = List.of("\\b(throws?|try|catch|synchronized|assert|package)\\b", "->",
            "::", "Exact\\(", "System\\.(?!arraycopy)", "\\b(Thread|Random|Object)\\b", "static\\s*\\{");
    private static final int MOST_FIELDS = 20;
    private static final int MOST_PARAMETERS = 7;

    private static final Checks CHECKS = new Checks("LanguageTest");

    public static void main(String[] args) throws IOException {
        face();
        classesInside();
        source();
        CHECKS.end();
    }

    private static void face() {
        Class<?> face = HoldQueue.class;
        CHECKS.due("the class is public and final", face.getModifiers(), Modifier.PUBLIC | Modifier.FINAL);
        CHECKS.due("constructors", face.getDeclaredConstructors().length, 1);
        CHECKS.due("public constructors", face.getConstructors().length, 1);
        CHECKS.due("its parameters", face.getDeclaredConstructors()[0].getParameterCount(), 0);
        Set<String> found = new TreeSet<>();
        for (Method method : face.getDeclaredMethods()) {
            if (!Modifier.isPrivate(method.getModifiers())) {
                CHECKS.due(method + " is public alone", method.getModifiers(), Modifier.PUBLIC);
                found.add(told(method));
            }
        }
        CHECKS.due("the methods of the face are " + found, found.equals(FACE), true);
        for (Field field : face.getDeclaredFields()) {
            boolean isNone = field.getName().equals("NONE");
            CHECKS.due(field + " is private or NONE", Modifier.isPrivate(field.getModifiers()) || isNone, true);
        }
    }

    private static String told(Method method) {
        StringBuilder text = new StringBuilder();
        text.append(method.getReturnType()).append(' ').append(method.getName()).append('(');
        for (Class<?> type : method.getParameterTypes()) {
            text.append(text.charAt(text.length() - 1) == '(' ? "" : ",").append(type);
        }
        return text.append(')').toString();
    }

    private static void classesInside() {
        Set<String> faceNames = new HashSet<>();
        FACE.forEach(line -> faceNames.add(line.substring(line.indexOf(' ') + 1, line.indexOf('('))));
        Class<?>[] inside = HoldQueue.class.getDeclaredClasses();
        for (Class<?> each : inside) {
            CHECKS.due(each + " is static", Modifier.isStatic(each.getModifiers()), true);
            fewEnough(each, faceNames);
        }
        fewEnough(HoldQueue.class, faceNames);
    }

    private static void fewEnough(Class<?> each, Set<String> faceNames) {
        int fields = 0;
        for (Field field : each.getDeclaredFields()) {
            boolean isStatic = Modifier.isStatic(field.getModifiers());
            CHECKS.due(field + " is final if it is static", !isStatic || Modifier.isFinal(field.getModifiers()), true);
            fields += isStatic ? 0 : 1;
        }
        CHECKS.due(each + " has few fields: " + fields, fields <= MOST_FIELDS, true);
        for (Method method : each.getDeclaredMethods()) {
            CHECKS.due(method + " has few parameters", method.getParameterCount() <= MOST_PARAMETERS, true);
            boolean isPublic = Modifier.isPublic(method.getModifiers());
            CHECKS.due(method + " has a name of its own", isPublic || !faceNames.contains(method.getName()), true);
        }
    }

    private static void source() throws IOException {
        String code = Files.readString(SOURCE).replaceAll("(?s)/\\*.*?\\*/", " ").replaceAll("//[^\n]*", " ");
        for (String banned : BANNED) {
            CHECKS.due("the source has " + banned, Pattern.compile(banned).matcher(code).find(), false);
        }
        Matcher imports = Pattern.compile("import\\s+([^;]*);").matcher(code);
        while (imports.find()) {
            boolean known = Set.of("java.util.Arrays", "java.util.ArrayList", "java.util.List")
                    .contains(imports.group(1));
            CHECKS.due("import of " + imports.group(1), known, true);
        }
    }
}
