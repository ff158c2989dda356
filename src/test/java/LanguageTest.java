import java.io.IOException;
import java.lang.reflect.Constructor;
import java.lang.reflect.Executable;
import java.lang.reflect.Field;
import java.lang.reflect.Method;
import java.lang.reflect.Modifier;
import java.nio.file.Files;
import java.nio.file.Path;
import java.util.ArrayList;
import java.util.Arrays;
import java.util.HashSet;
import java.util.List;
import java.util.Map;
import java.util.Set;
import java.util.TreeMap;
import java.util.TreeSet;
import java.util.regex.Matcher;
import java.util.regex.Pattern;

/**
 * The rules of LANGUAGE.md, by their numbers, as far as the text and the members of the class can
 * tell that they are kept. It asks for less than the rules allow where the class does with less.
 */
public final class LanguageTest extends Answers {
    private static final Path SOURCE = Path.of("src/main/java/Harnessboard.java");
    private static final Class<?> FACE = Harnessboard.class;
    private static final int MOST_LINES = 60;
    private static final int MOST_DEPTH = 8;
    private static final int MOST_CLASSES = 12;
    private static final int MOST_FIELDS = 20;
    private static final int MOST_PARAMETERS = 7;

    /** Words and signs that are outside the rules, or that the class does without. */
    private static final String[] BANNED = {
        "->", "::", "\\bcatch\\b", "\\bfinally\\b", "\\btry\\b", "\\bsynchronized\\b", "\\bassert\\b", "\\brecord\\b",
        "\\binstanceof\\b", "\\bpackage\\b", "\\bnative\\b", "\\bvolatile\\b", "\\btransient\\b", "\\bvar\\b",
        "\\bswitch\\b", "\\binterface\\b", "\\benum\\b", "\\babstract\\b", "\\bextends\\b", "\\bprotected\\b",
        "\\bstatic \\{", "\"\\s*\\+", "\\+\\s*\"", "@", "[^\\x00-\\x7f]"};
    private static final Set<String> IMPORTS = Set.of("java.util.Arrays", "java.util.NoSuchElementException");
    private static final Set<String> LIBRARY = Set.of("Arrays.fill", "Arrays.copyOf", "System.arraycopy",
            "Integer.bitCount", "Math.min", "Math.max");
    private static final Set<String> WORDS_BEFORE_BRACKETS = Set.of("if", "for", "while", "return");
    private static final Set<String> EXCEPTIONS = Set.of("IllegalStateException", "IllegalArgumentException",
            "IndexOutOfBoundsException", "ArithmeticException", "UnsupportedOperationException",
            "NoSuchElementException", "RuntimeException");

    private static final Pattern METHOD =
            Pattern.compile("( {4}| {8})(?:(?:public|private|static|final) )*([\\w\\[\\]]+) (\\w+)\\([^;]*");
    private static final Pattern CONSTRUCTOR = Pattern.compile("( {4}| {8})(?:public )?([A-Z]\\w*)\\([^;]*");
    private static final Pattern CALL = Pattern.compile("\\b(?:([A-Z]\\w*)\\.)?(?<!new )(\\w+)\\(");

    /** By its name, what stands in a method; methods of one name are taken together. */
    private static final Map<String, String> METHODS = new TreeMap<>();
    private static final List<String> CONSTRUCTORS = new ArrayList<>();
    private static List<String> lines;
    private static String code;

    private static void read() throws IOException {
        String text = Files.readString(SOURCE);
        code = text.replaceAll("(?s)/\\*.*?\\*/", "").replaceAll("//[^\n]*", "");
        lines = Arrays.asList(text.split("\n"));
        String[] bare = code.split("\n");
        for (int i = 0; i < bare.length; i++) {
            Matcher method = METHOD.matcher(bare[i]);
            Matcher constructor = CONSTRUCTOR.matcher(bare[i]);
            if (method.matches() && !method.group(2).equals("new") && !method.group(2).equals("return")) {
                METHODS.merge(method.group(3), body(bare, i, method.group(1)), String::concat);
            } else if (constructor.matches()) {
                CONSTRUCTORS.add(body(bare, i, constructor.group(1)));
            }
        }
    }

    /** The lines behind the first one, up to the bracket below its begin. */
    private static String body(String[] bare, int first, String indent) {
        StringBuilder body = new StringBuilder();
        for (int i = first + 1; i < bare.length && !bare[i].equals(indent + "}"); i++) {
            body.append(bare[i]).append('\n');
        }
        return body.toString();
    }

    private static List<Class<?>> classes() {
        List<Class<?>> classes = new ArrayList<>(List.of(FACE.getDeclaredClasses()));
        classes.add(FACE);
        return classes;
    }

    private static List<Executable> executables() {
        List<Executable> found = new ArrayList<>();
        for (Class<?> owner : classes()) {
            found.addAll(List.of(owner.getDeclaredMethods()));
            found.addAll(List.of(owner.getDeclaredConstructors()));
        }
        return found;
    }

    private static List<Field> fields() {
        List<Field> found = new ArrayList<>();
        for (Class<?> owner : classes()) {
            found.addAll(List.of(owner.getDeclaredFields()));
        }
        return found;
    }

    // Rule 1

    private static void checkFace() {
        Set<String> names = new TreeSet<>();
        for (Method method : FACE.getDeclaredMethods()) {
            if (Modifier.isPublic(method.getModifiers())) {
                require(names.add(method.getName()), "1: two public methods are called " + method.getName());
            } else {
                require(Modifier.isPrivate(method.getModifiers()), "1: " + method + " is neither public nor private");
            }
        }
        Set<String> promised = new TreeSet<>();
        for (int promise = 2; promise <= 51; promise++) {
            promised.add(Document.promise(promise).get(0).replaceAll("^`\\S+ (\\w+)\\(.*", "$1"));
        }
        due("1: the methods of the face", names, promised);
        require(Modifier.isPublic(FACE.getModifiers()) && Modifier.isFinal(FACE.getModifiers()), "1: the class");
        due("1: constructors", Arrays.toString(FACE.getDeclaredConstructors()), "[public Harnessboard()]");
        for (Field field : FACE.getDeclaredFields()) {
            require(Modifier.isPrivate(field.getModifiers()), "1: " + field + " is not private");
        }
        for (Executable method : executables()) {
            boolean isPublic = Modifier.isPublic(method.getModifiers());
            require(isPublic || !names.contains(method.getName()), "1: " + method + " bears a name of the face");
        }
    }

    // Rules 2 and 3

    private static void checkClassesInside() {
        for (Class<?> inside : FACE.getDeclaredClasses()) {
            int modifiers = inside.getModifiers();
            require(Modifier.isStatic(modifiers) && Modifier.isPrivate(modifiers), "2: " + inside + " inside");
            due("2: classes in " + inside, inside.getDeclaredClasses().length, 0);
        }
    }

    private static void checkTypes() {
        for (Field field : fields()) {
            checkType(field.getType(), field);
        }
        for (Executable method : executables()) {
            for (Class<?> type : method.getParameterTypes()) {
                checkType(type, method);
            }
            if (method instanceof Method) {
                checkType(((Method) method).getReturnType(), method);
            }
        }
    }

    private static void checkType(Class<?> type, Object where) {
        Class<?> one = type.isArray() ? type.getComponentType() : type;
        require(one.isPrimitive() || one == String.class && !type.isArray() || classes().contains(one),
                "3: the type of " + where);
    }

    // Rule 4, and with it rule 13

    private static void checkLibrary() {
        Matcher imports = Pattern.compile("import ([^;]*);").matcher(code);
        while (imports.find()) {
            require(IMPORTS.contains(imports.group(1)), "4: the class imports " + imports.group(1));
        }
        require(!code.replaceAll("import [^;]*;", "").contains("java."), "4: a name of the library written out");
        Matcher calls = CALL.matcher(code);
        while (calls.find()) {
            boolean isLibrary = calls.group(1) != null && LIBRARY.contains(calls.group(1) + "." + calls.group(2));
            boolean isOwn = calls.group(1) == null && METHODS.containsKey(calls.group(2));
            boolean isConstructor = calls.group(2).matches("[A-Z]\\w*") && code.contains("class " + calls.group(2));
            require(isLibrary || isOwn || isConstructor || WORDS_BEFORE_BRACKETS.contains(calls.group(2)),
                    "4: the class calls " + calls.group());
        }
    }

    // Rule 5

    private static void checkStaticFields() {
        for (Field field : fields()) {
            boolean isStatic = Modifier.isStatic(field.getModifiers());
            require(!isStatic || Modifier.isFinal(field.getModifiers()) && field.getType().isPrimitive(),
                    "5: " + field + " is no constant");
        }
    }

    // Rule 6

    private static void checkThrows() {
        Matcher thrown = Pattern.compile("\\bthrow\\b[^;]*;").matcher(code);
        int many = 0;
        while (thrown.find()) {
            many++;
            Matcher plain = Pattern.compile("throw new (\\w+)\\(\"[ -~]+\"\\);").matcher(thrown.group());
            require(plain.matches() && EXCEPTIONS.contains(plain.group(1)), "6: " + thrown.group());
        }
        require(many > 30, "6: only " + many + " throws are found");
        for (String constructor : CONSTRUCTORS) {
            require(!constructor.contains("throw"), "6: a constructor throws");
        }
    }

    // Rules 8 and 11: what calls what

    private static Set<String> calledBy(String method) {
        Set<String> called = new TreeSet<>();
        Matcher calls = CALL.matcher(METHODS.get(method));
        while (calls.find()) {
            if (METHODS.containsKey(calls.group(2))) {
                called.add(calls.group(2));
            }
        }
        return called;
    }

    private static int depth(String method, Set<String> open) {
        int deepest = 0;
        open.add(method);
        for (String called : calledBy(method)) {
            boolean isItself = called.equals(method);
            require(!open.contains(called) || isItself && method.equals("tryOn"), "8: " + method + " and " + called);
            deepest = open.contains(called) ? deepest : Math.max(deepest, depth(called, open));
        }
        open.remove(method);
        return deepest + 1;
    }

    private static void checkCalls() throws NoSuchMethodException {
        require(METHODS.size() > 120, "8: only " + METHODS.size() + " methods are found");
        for (String method : METHODS.keySet()) {
            int depth = depth(method, new HashSet<>());
            require(depth <= MOST_DEPTH, "11: calls from " + method + " go " + depth + " deep");
        }
        Class<?> trial = Arrays.stream(FACE.getDeclaredClasses())
                .filter(inside -> inside.getSimpleName().equals("WayTrial")).findFirst().orElseThrow();
        Method recursion = trial.getDeclaredMethod("tryOn", trial, int.class, int.class, int.class);
        int modifiers = recursion.getModifiers();
        require(Modifier.isPrivate(modifiers) && Modifier.isStatic(modifiers), "8: " + recursion);
    }

    // Rules 9, 10 and 12

    private static void checkLoops() {
        Matcher endless = Pattern.compile("while \\(true\\)|for \\(;|; ;|\\bdo\\b").matcher(code);
        require(!endless.find(), "9: a loop without a bound");
        String[] bare = code.split("\n");
        for (int i = 0; i < bare.length; i++) {
            if (bare[i].matches(" *(for|while) \\(.*")) {
                String indent = bare[i].replaceAll("\\S.*", "");
                String inside = body(bare, i, indent).replaceAll("throw new", "throw");
                require(!inside.contains("new "), "12: an object is made in the loop at line " + (i + 1));
            }
        }
        for (String constructor : CONSTRUCTORS) {
            Matcher calls = CALL.matcher(constructor);
            while (calls.find()) {
                require("Arrays.fill(".equals(calls.group()), "12: a constructor calls " + calls.group());
            }
            require(!constructor.matches("(?s).*\\bthis[,)].*"), "12: a constructor hands itself out");
        }
    }

    private static void checkWords() {
        for (String banned : BANNED) {
            require(!Pattern.compile(banned).matcher(code).find(), "10: the class has " + banned);
        }
    }

    // Rule 11

    private static void checkMeasures() {
        require(classes().size() <= MOST_CLASSES, "11: there are " + classes().size() + " classes");
        for (Class<?> owner : classes()) {
            long many = Arrays.stream(owner.getDeclaredFields())
                    .filter(field -> !Modifier.isStatic(field.getModifiers())).count();
            require(many <= MOST_FIELDS, "11: " + owner + " has " + many + " fields");
        }
        for (Executable method : executables()) {
            require(method.getParameterCount() <= MOST_PARAMETERS, "11: the parameters of " + method);
        }
        for (Map.Entry<String, String> method : METHODS.entrySet()) {
            long many = method.getValue().lines().count();
            require(many <= MOST_LINES, "11: " + method.getKey() + " has " + many + " lines");
        }
        for (int i = 0; i < lines.size(); i++) {
            require(lines.get(i).length() <= 120, "line " + (i + 1) + " is wide");
        }
    }

    public static void main(String[] args) throws IOException, NoSuchMethodException {
        read();
        checkFace();
        checkClassesInside();
        checkTypes();
        checkLibrary();
        checkStaticFields();
        checkThrows();
        checkCalls();
        checkLoops();
        checkWords();
        checkMeasures();
        end();
    }
}
