import java.io.IOException;
import java.lang.reflect.Field;
import java.lang.reflect.Method;
import java.lang.reflect.Modifier;
import java.nio.file.Files;
import java.nio.file.Path;
import java.util.Arrays;
import java.util.Comparator;
import java.util.HashSet;
import java.util.List;
import java.util.Random;
import java.util.Set;
import java.util.TreeSet;
import java.util.regex.Matcher;
import java.util.regex.Pattern;

/** The document's face, and those rules of LANGUAGE.md that can be seen without reading the code by eye. */
public final class LanguageTest {
    private static final Path SOURCE = Path.of("src/main/java/HoldQueue.java");
    private static final Set<String> FACE = Set.of(
            "int record(int)", "int copy(int,int)", "boolean bar(int,boolean)", "int hold(int,int,int,int)",
            "int most(int,int)", "int suspend(int,long)", "int back(int,int)", "int arrive(int)", "int pick(int)",
            "int lend(int)", "int cancel(int)", "int tick(long)", "int span(int)", "int rank(int,int)",
            "int order(int,int)", "int state(int,int)", "int where(int,int)");
    private static final List<String> BANNED = List.of("\\b(throws?|try|catch|synchronized|assert|package)\\b", "->",
            "::", "Exact\\(", "System\\.(?!arraycopy)", "\\b(Thread|Random|Object)\\b", "static\\s*\\{");
    private static final int MOST_CLASSES = 12;
    private static final int MOST_LINES = 60;
    private static final int MOST_FIELDS = 20;
    private static final int MOST_PARAMETERS = 7;
    private static final int RUNS = 60;
    private static final int CALLS = 3000;

    private static final Checks CHECKS = new Checks("LanguageTest");

    public static void main(String[] args) throws IOException, ReflectiveOperationException {
        face();
        constant();
        classesInside();
        source();
        methodsAreShort();
        anyCallsEnd();
        CHECKS.end();
    }

    private static void face() {
        Class<?> face = HoldQueue.class;
        CHECKS.due("the class is public and final", face.getModifiers(), Modifier.PUBLIC | Modifier.FINAL);
        CHECKS.due("the class extends nothing", face.getSuperclass() == Object.class, true);
        CHECKS.due("interfaces", face.getInterfaces().length, 0);
        CHECKS.due("constructors", face.getDeclaredConstructors().length, 1);
        CHECKS.due("public constructors", face.getConstructors().length, 1);
        CHECKS.due("its parameters", face.getDeclaredConstructors()[0].getParameterCount(), 0);
        Set<String> found = new TreeSet<>();
        for (Method method : face.getDeclaredMethods()) {
            if (!Modifier.isPrivate(method.getModifiers())) {
                CHECKS.due(method + " is public alone", method.getModifiers(), Modifier.PUBLIC);
                CHECKS.due(method + " declares exceptions", method.getExceptionTypes().length, 0);
                found.add(told(method));
            }
        }
        CHECKS.due("the methods of the face are " + found, found.equals(FACE), true);
        for (Field field : face.getDeclaredFields()) {
            boolean isNone = field.getName().equals("NONE");
            CHECKS.due(field + " is private or NONE", Modifier.isPrivate(field.getModifiers()) || isNone, true);
        }
    }

    private static void constant() {
        CHECKS.due("NONE is a constant of -1", isConstantNone(-1), true);
        int found = 0;
        for (Field field : HoldQueue.class.getFields()) {
            found++;
            CHECKS.due(field + " is NONE", field.getName().equals("NONE") && field.getType() == int.class, true);
            int modifiers = Modifier.PUBLIC | Modifier.STATIC | Modifier.FINAL;
            CHECKS.due(field + " is public, static and final", field.getModifiers(), modifiers);
        }
        CHECKS.due("public fields", found, 1);
    }

    /** Compiles only while NONE is a constant for the compiler too. */
    private static boolean isConstantNone(int number) {
        switch (number) {
            case HoldQueue.NONE:
                return true;
            default:
                return false;
        }
    }

    private static String told(Method method) {
        StringBuilder text = new StringBuilder();
        text.append(method.getReturnType()).append(' ').append(method.getName()).append('(');
        for (Class<?> type : method.getParameterTypes()) {
            text.append(text.charAt(text.length() - 1) == '(' ? "" : ",").append(type);
        }
        return text.append(')').toString();
    }

    private static void classesInside() {
        Set<String> faceNames = new HashSet<>();
        FACE.forEach(line -> faceNames.add(line.substring(line.indexOf(' ') + 1, line.indexOf('('))));
        Class<?>[] inside = HoldQueue.class.getDeclaredClasses();
        CHECKS.due("classes: " + inside.length, inside.length < MOST_CLASSES, true);
        for (Class<?> each : inside) {
            CHECKS.due(each + " is static", Modifier.isStatic(each.getModifiers()), true);
            int seen = each.getModifiers() & (Modifier.PUBLIC | Modifier.PROTECTED);
            CHECKS.due(each + " is private or package-visible", seen, 0);
            fewEnough(each, faceNames);
        }
        fewEnough(HoldQueue.class, faceNames);
    }

    private static void fewEnough(Class<?> each, Set<String> faceNames) {
        int fields = 0;
        for (Field field : each.getDeclaredFields()) {
            boolean isStatic = Modifier.isStatic(field.getModifiers());
            CHECKS.due(field + " is final if it is static", !isStatic || Modifier.isFinal(field.getModifiers()), true);
            fields += isStatic ? 0 : 1;
        }
        CHECKS.due(each + " has few fields: " + fields, fields <= MOST_FIELDS, true);
        for (Method method : each.getDeclaredMethods()) {
            CHECKS.due(method + " has few parameters", method.getParameterCount() <= MOST_PARAMETERS, true);
            boolean isPublic = Modifier.isPublic(method.getModifiers());
            CHECKS.due(method + " has a name of its own", isPublic || !faceNames.contains(method.getName()), true);
        }
    }

    private static void source() throws IOException {
        String code = Files.readString(SOURCE).replaceAll("(?s)/\\*.*?\\*/", " ").replaceAll("//[^\n]*", " ");
        for (String banned : BANNED) {
            CHECKS.due("the source has " + banned, Pattern.compile(banned).matcher(code).find(), false);
        }
        Matcher imports = Pattern.compile("import\\s+([^;]*);").matcher(code);
        // Rows are made with the object: a call that made some would fill the room that all calls share.
        for (String line : code.split("\n")) {
            boolean isRow = line.matches(" +private final \\S+ \\w+ = new [^;]*;");
            CHECKS.due("made by a call:" + line, line.matches(".*\\bnew\\b.*") && !isRow, false);
        }
        while (imports.find()) {
            boolean known = Set.of("java.util.Arrays", "java.util.ArrayList", "java.util.List")
                    .contains(imports.group(1));
            CHECKS.due("import of " + imports.group(1), known, true);
        }
    }

    /** A method's lines, from the one that opens it to the brace that stands as far in. */
    private static void methodsAreShort() throws IOException {
        Pattern opening = Pattern.compile("( +)(public|private) [^=;]*\\) \\{");
        String closing = "";
        int opened = 0;
        int number = 0;
        int methods = 0;
        for (String line : Files.readAllLines(SOURCE)) {
            number++;
            Matcher found = opening.matcher(line);
            if (found.matches()) {
                closing = found.group(1) + "}";
                opened = number;
                methods++;
            } else if (opened > 0 && line.equals(closing)) {
                CHECKS.due("the method on line " + opened + " is short", number - opened < MOST_LINES, true);
                opened = 0;
            }
        }
        CHECKS.due("methods were found", methods > FACE.size(), true);
    }

    /** No call throws, whatever its arguments, after the 512th too; the same calls have the same answers. */
    private static void anyCallsEnd() throws ReflectiveOperationException {
        Method[] methods = HoldQueue.class.getDeclaredMethods();
        Arrays.sort(methods, Comparator.comparing(Method::getName));
        for (int seed = 0; seed < RUNS; seed++) {
            Random random = new Random(seed);
            HoldQueue one = new HoldQueue();
            HoldQueue other = new HoldQueue();
            for (int n = 0; n < CALLS; n++) {
                Method method = methods[random.nextInt(methods.length)];
                if (Modifier.isPublic(method.getModifiers())) {
                    Object[] arguments = anyArguments(method, random, seed % 2 == 0);
                    boolean same = method.invoke(one, arguments).equals(method.invoke(other, arguments));
                    CHECKS.due(method + " answers the same", same, true);
                }
            }
        }
    }

    private static Object[] anyArguments(Method method, Random random, boolean wild) {
        Class<?>[] types = method.getParameterTypes();
        Object[] arguments = new Object[types.length];
        for (int n = 0; n < types.length; n++) {
            arguments[n] = anyOf(types[n], random, wild && random.nextInt(4) == 0);
        }
        return arguments;
    }

    private static Object anyOf(Class<?> type, Random random, boolean wild) {
        if (type == boolean.class) {
            return random.nextBoolean();
        }
        int small = random.nextInt(random.nextBoolean() ? 6 : 130);
        if (type == long.class) {
            return wild ? random.nextLong() : (long) small;
        }
        return wild ? random.nextInt() : small;
    }
}
