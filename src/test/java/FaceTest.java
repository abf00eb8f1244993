import java.io.IOException;
import java.lang.reflect.Constructor;
import java.lang.reflect.Field;
import java.lang.reflect.Method;
import java.lang.reflect.Modifier;
import java.nio.file.Files;
import java.nio.file.Path;
import java.util.Arrays;
import java.util.Set;
import java.util.TreeSet;
import java.util.regex.Matcher;
import java.util.regex.Pattern;

/** The public face is the document's and no more, and the source keeps to what of LANGUAGE.md can be told by words. */
public final class FaceTest {
    private static final Path DOCUMENT = Path.of("..", "shared", "DOC.md");
    private static final int METHODS_OF_THE_FACE = 25;
    private static final int CONSTANTS_OF_THE_FACE = 5;
    private static final int MOST_CLASSES = 12;
    private static final int MOST_FIELDS = 20;
    private static final int MOST_PARAMETERS = 7;
    private static final Pattern CONSTANT = Pattern.compile("    public static final int (\\w+) = (-?[0-9]+);");
    private static final Pattern CALL = Pattern.compile("    public (\\w+ )?(\\w+)\\((.*)\\);");

    private FaceTest() {
    }

    public static void main(String[] args) throws IOException, ReflectiveOperationException {
        faceIsThatOfTheDocument();
        noPrivateMethodHasTheNameOfAPublicOne();
        constantsAreThoseOfTheDocument();
        classesAreFewAndSmall();
        sourceHasNoWordThatTheLanguageRulesOut();
        Check.end();
    }

    private static void faceIsThatOfTheDocument() throws IOException {
        Class<LampRacks> face = LampRacks.class;
        Set<String> found = new TreeSet<>();
        for (Method method : face.getDeclaredMethods()) {
            if (!Modifier.isPrivate(method.getModifiers())) {
                String parameters = Arrays.toString(method.getParameterTypes());
                found.add(method.getReturnType() + " " + method.getName() + "("
                        + parameters.substring(1, parameters.length() - 1) + ")");
                Check.due(method + " is public", Modifier.isPublic(method.getModifiers()) ? 1 : 0, 1);
            }
        }
        for (Field field : face.getDeclaredFields()) {
            if (!Modifier.isPrivate(field.getModifiers())) {
                found.add(field.getName());
                int all = Modifier.PUBLIC | Modifier.STATIC | Modifier.FINAL;
                Check.due(field + " is a constant", field.getModifiers(), all);
            }
        }
        for (Constructor<?> constructor : face.getDeclaredConstructors()) {
            found.add(constructor.getName() + (constructor.getParameterCount() == 0 ? "()" : "(..)"));
        }
        Set<String> due = readFace();
        Check.due("members that the document shows", due.size(), METHODS_OF_THE_FACE + CONSTANTS_OF_THE_FACE + 1);
        if (!found.equals(due)) {
            System.out.println("found " + found + ", due " + due);
        }
        Check.due("face is that of the document", found.equals(due) ? 1 : 0, 1);
        Check.due("class", face.getModifiers(), Modifier.PUBLIC | Modifier.FINAL);
    }

    /** The members that the document shows: "int put(int, int, int)", "FULL", "LampRacks()". */
    private static Set<String> readFace() throws IOException {
        Set<String> face = new TreeSet<>();
        for (String line : Files.readAllLines(DOCUMENT)) {
            Matcher constant = CONSTANT.matcher(line);
            Matcher call = CALL.matcher(line);
            if (constant.matches()) {
                face.add(constant.group(1));
            } else if (call.matches()) {
                String type = call.group(1) == null ? "" : call.group(1);
                face.add(type + call.group(2) + "(" + call.group(3).replaceAll(" \\w+(?=,|$)", "") + ")");
            }
        }
        return face;
    }

    private static void noPrivateMethodHasTheNameOfAPublicOne() {
        Set<String> names = new TreeSet<>();
        for (Method method : LampRacks.class.getMethods()) {
            if (method.getDeclaringClass() == LampRacks.class) {
                names.add(method.getName());
            }
        }
        for (Method method : LampRacks.class.getDeclaredMethods()) {
            if (Modifier.isPrivate(method.getModifiers())) {
                Check.due(method + " has a name of the face", names.contains(method.getName()) ? 1 : 0, 0);
            }
        }
        for (Class<?> inside : LampRacks.class.getDeclaredClasses()) {
            Check.due(inside + " is static", Modifier.isStatic(inside.getModifiers()) ? 1 : 0, 1);
            for (Method method : inside.getDeclaredMethods()) {
                Check.due(method + " has a name of the face", names.contains(method.getName()) ? 1 : 0, 0);
            }
        }
    }

    private static void constantsAreThoseOfTheDocument() throws IOException, ReflectiveOperationException {
        Matcher constant = CONSTANT.matcher(Files.readString(DOCUMENT));
        int constants = 0;
        while (constant.find()) {
            int value = LampRacks.class.getField(constant.group(1)).getInt(null);
            Check.due(constant.group(1), value, Integer.parseInt(constant.group(2)));
            constants++;
        }
        Check.due("constants that the document shows", constants, CONSTANTS_OF_THE_FACE);
        Check.due("UNKNOWN", LampRacks.UNKNOWN, -1001);
        Check.due("BAD_VALUE", LampRacks.BAD_VALUE, -1002);
        Check.due("FULL", LampRacks.FULL, -1003);
        Check.due("NOT_POSSIBLE", LampRacks.NOT_POSSIBLE, -1004);
        Check.due("NONE", LampRacks.NONE, -1005);
    }

    private static void classesAreFewAndSmall() {
        Class<?>[] inside = LampRacks.class.getDeclaredClasses();
        Check.due("classes", Math.max(1 + inside.length, MOST_CLASSES), MOST_CLASSES);
        isSmall(LampRacks.class);
        for (Class<?> one : inside) {
            isSmall(one);
            Check.due("classes inside " + one, one.getDeclaredClasses().length, 0);
        }
    }

    private static void isSmall(Class<?> one) {
        int fields = 0;
        for (Field field : one.getDeclaredFields()) {
            boolean constant = Modifier.isStatic(field.getModifiers());
            fields += constant ? 0 : 1;
            Check.due(field + " is final, or no constant", !constant || Modifier.isFinal(field.getModifiers()) ? 1 : 0, 1);
        }
        Check.due("fields of " + one, Math.max(fields, MOST_FIELDS), MOST_FIELDS);
        for (Method method : one.getDeclaredMethods()) {
            int parameters = method.getParameterCount();
            Check.due("parameters of " + method, Math.max(parameters, MOST_PARAMETERS), MOST_PARAMETERS);
        }
    }

    private static void sourceHasNoWordThatTheLanguageRulesOut() throws IOException {
        String source = Files.readString(Path.of("src", "main", "java", "LampRacks.java"));
        String code = source.replaceAll("(?s)/\\*.*?\\*/", "").replaceAll("//.*", "");
        Pattern words = Pattern.compile("\\b(throw|throws|try|catch|finally|synchronized|assert|package|native|volatile"
                + "|transient|extends|protected|Object|System\\.(?!arraycopy)\\w+|Exact\\w*|\\w+Exact|equals|hashCode"
                + "|toString|import(?! java\\.util\\.Arrays;))\\b|->|::|\\\"");
        Matcher matcher = words.matcher(code);
        while (matcher.find()) {
            Check.due("source has " + matcher.group(), 1, 0);
        }
        for (String line : source.split("\n")) {
            Check.due("length of " + line, Math.max(line.length(), 100), 100);
        }
    }
}
