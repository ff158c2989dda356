import java.io.IOException;
import java.lang.reflect.Constructor;
import java.lang.reflect.Field;
import java.lang.reflect.Method;
import java.lang.reflect.Modifier;
import java.nio.file.Files;
import java.nio.file.Path;
import java.util.Arrays;
import java.util.Set;
import java.util.TreeSet;
import java.util.regex.Matcher;
import java.util.regex.Pattern;

/** The rules of LANGUAGE.md that the text and the members of the class can tell. */
public final class LanguageTest {
    private static final Path SOURCE = Path.of("src/main/java/Harnessboard.java");

    /** Words and signs that are outside the rules, or that the class does without. */
    private static final String[] BANNED = {
        "->", "::", "\\bcatch\\b", "\\bfinally\\b", "\\btry\\b", "\\bsynchronized\\b", "\\bassert\\b",
        "\\brecord\\b", "\\binstanceof\\b", "\\bpackage\\b", "\\bnative\\b", "\\bvolatile\\b",
        "\"\\s*\\+", "\\+\\s*\"", "Exact\\b", "\\bMath\\.(?!min\\(|max\\()", "\\bSystem\\.(?!arraycopy\\()",
        "\\bArrays\\.(?!copyOf\\(|fill\\()", "\\bInteger\\.(?!bitCount\\()", "\\bthrow (?!new )", "[^\\x00-\\x7f]"};

    private static int wrong = 0;

    private static void require(boolean holds, String what) {
        if (!holds) {
            wrong++;
            System.out.println(what);
        }
    }

    private static String withoutComments(String text) {
        return text.replaceAll("(?s)/\\*.*?\\*/", "").replaceAll("//[^\n]*", "");
    }

    private static void checkText(String code) {
        for (String banned : BANNED) {
            Matcher matcher = Pattern.compile(banned).matcher(code);
            require(!matcher.find(), "the class has " + banned);
        }
        Matcher imports = Pattern.compile("import ([^;]*);").matcher(code);
        Set<String> allowed = Set.of("java.util.Arrays", "java.util.NoSuchElementException");
        while (imports.find()) {
            require(allowed.contains(imports.group(1)), "the class imports " + imports.group(1));
        }
    }

    private static void checkMembers() {
        Set<String> names = new TreeSet<>();
        Class<?> face = Harnessboard.class;
        for (Method method : face.getDeclaredMethods()) {
            if (Modifier.isPublic(method.getModifiers())) {
                require(names.add(method.getName()), "two public methods are called " + method.getName());
            } else {
                require(Modifier.isPrivate(method.getModifiers()), method + " is neither public nor private");
            }
        }
        require(names.size() == 50, "the face has 50 methods, not " + names.size());
        checkHidden(face, names);
        for (Field field : face.getDeclaredFields()) {
            require(Modifier.isPrivate(field.getModifiers()), field + " is not private");
        }
        for (Constructor<?> constructor : face.getDeclaredConstructors()) {
            require(constructor.getParameterCount() == 0, constructor + " is not in the document");
        }
        require(face.getDeclaredClasses().length + 1 <= 12, "there are more than 12 classes");
        for (Class<?> inside : face.getDeclaredClasses()) {
            require(Modifier.isStatic(inside.getModifiers()), inside + " is not static");
            checkHidden(inside, names);
            checkFields(inside);
        }
        checkFields(face);
    }

    private static void checkHidden(Class<?> owner, Set<String> faceNames) {
        for (Method method : owner.getDeclaredMethods()) {
            boolean isFace = Modifier.isPublic(method.getModifiers());
            require(isFace || !faceNames.contains(method.getName()), method + " bears a name of the face");
            require(method.getParameterCount() <= 7, method + " takes more than 7 parameters");
        }
    }

    private static void checkFields(Class<?> owner) {
        long fields = Arrays.stream(owner.getDeclaredFields()).filter(f -> !Modifier.isStatic(f.getModifiers())).count();
        require(fields <= 20, owner + " has " + fields + " fields");
        for (Field field : owner.getDeclaredFields()) {
            boolean isStatic = Modifier.isStatic(field.getModifiers());
            require(!isStatic || Modifier.isFinal(field.getModifiers()), field + " is static and not final");
        }
    }

    private static void checkLengths(String text) {
        int begin = 0;
        String[] lines = text.split("\n");
        for (int i = 0; i < lines.length; i++) {
            if (lines[i].matches("( {4}| {8})\\S.*\\{")) {
                begin = i;
            }
            boolean ends = lines[i].matches("( {4}| {8})\\}");
            require(!ends || i - begin < 60, "what begins at line " + (begin + 1) + " is long");
            require(lines[i].length() <= 120, "line " + (i + 1) + " is wide");
        }
    }

    public static void main(String[] args) throws IOException {
        String text = Files.readString(SOURCE);
        checkText(withoutComments(text));
        checkMembers();
        checkLengths(text);
        System.out.println(wrong == 0 ? "the rules are kept" : wrong + " rules are broken");
        if (wrong != 0) {
            System.exit(1);
        }
    }
}
