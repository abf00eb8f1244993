import java.io.IOException;
import java.lang.reflect.Constructor;
import java.lang.reflect.Field;
import java.lang.reflect.Method;
import java.lang.reflect.Modifier;
import java.nio.file.Files;
import java.nio.file.Path;
import java.util.Arrays;
import java.util.Set;
import java.util.TreeSet;
import java.util.regex.Matcher;
import java.util.regex.Pattern;

/** The public face is the document's and no more, and the source keeps to what of LANGUAGE.md can be told by words. */
public final class FaceTest {
    private static final String[] FACE = {
        "int setBatch(int, int, int)", "int put(int, int, int)", "int takeOut(int, int)",
        "int swap(int, int, int, int)", "int setVolts(int, int)", "int setSteps(int, int, int)", "int set(int, int)",
        "int pass(int)", "int type(char)", "int clearText()", "int perform()", "int stopped(int)", "int undo()",
        "int keep()", "int restore()", "int lamp(int, int)", "int rack(int, int)", "int at(int, int)",
        "int batch(int, int)", "int lasted(int, int)", "int ended(int)", "int lasts(int, int)", "int reason(int)",
        "int next(int)", "int count(int)",
        "BAD_VALUE", "FULL", "NONE", "NOT_POSSIBLE", "UNKNOWN", "LampRacks()",
    };

    private FaceTest() {
    }

    public static void main(String[] args) throws IOException {
        faceIsThatOfTheDocument();
        noPrivateMethodHasTheNameOfAPublicOne();
        constantsAreThoseOfTheDocument();
        sourceHasNoWordThatTheLanguageRulesOut();
        Check.end();
    }

    private static void faceIsThatOfTheDocument() {
        Class<LampRacks> face = LampRacks.class;
        Set<String> found = new TreeSet<>();
        for (Method method : face.getDeclaredMethods()) {
            if (!Modifier.isPrivate(method.getModifiers())) {
                String parameters = Arrays.toString(method.getParameterTypes());
                found.add(method.getReturnType() + " " + method.getName() + "("
                        + parameters.substring(1, parameters.length() - 1) + ")");
                Check.due(method + " is public", Modifier.isPublic(method.getModifiers()) ? 1 : 0, 1);
            }
        }
        for (Field field : face.getDeclaredFields()) {
            if (!Modifier.isPrivate(field.getModifiers())) {
                found.add(field.getName());
                int all = Modifier.PUBLIC | Modifier.STATIC | Modifier.FINAL;
                Check.due(field + " is a constant", field.getModifiers(), all);
            }
        }
        for (Constructor<?> constructor : face.getDeclaredConstructors()) {
            found.add(constructor.getName() + (constructor.getParameterCount() == 0 ? "()" : "(..)"));
        }
        Set<String> due = new TreeSet<>(Arrays.asList(FACE));
        if (!found.equals(due)) {
            System.out.println("found " + found + ", due " + due);
        }
        Check.due("face is that of the document", found.equals(due) ? 1 : 0, 1);
        Check.due("class", face.getModifiers(), Modifier.PUBLIC | Modifier.FINAL);
    }

    private static void noPrivateMethodHasTheNameOfAPublicOne() {
        Set<String> names = new TreeSet<>();
        for (Method method : LampRacks.class.getMethods()) {
            if (method.getDeclaringClass() == LampRacks.class) {
                names.add(method.getName());
            }
        }
        for (Method method : LampRacks.class.getDeclaredMethods()) {
            if (Modifier.isPrivate(method.getModifiers())) {
                Check.due(method + " has a name of the face", names.contains(method.getName()) ? 1 : 0, 0);
            }
        }
        for (Class<?> inside : LampRacks.class.getDeclaredClasses()) {
            Check.due(inside + " is static", Modifier.isStatic(inside.getModifiers()) ? 1 : 0, 1);
            for (Method method : inside.getDeclaredMethods()) {
                Check.due(method + " has a name of the face", names.contains(method.getName()) ? 1 : 0, 0);
            }
        }
    }

    private static void constantsAreThoseOfTheDocument() {
        Check.due("UNKNOWN", LampRacks.UNKNOWN, -1001);
        Check.due("BAD_VALUE", LampRacks.BAD_VALUE, -1002);
        Check.due("FULL", LampRacks.FULL, -1003);
        Check.due("NOT_POSSIBLE", LampRacks.NOT_POSSIBLE, -1004);
        Check.due("NONE", LampRacks.NONE, -1005);
    }

    private static void sourceHasNoWordThatTheLanguageRulesOut() throws IOException {
        String source = Files.readString(Path.of("src", "main", "java", "LampRacks.java"));
        String code = source.replaceAll("(?s)/\\*.*?\\*/", "").replaceAll("//.*", "");
        Pattern words = Pattern.compile("\\b(throw|throws|try|catch|finally|synchronized|assert|package|native|volatile"
                + "|transient|extends|protected|Object|System\\.(?!arraycopy)\\w+|Exact\\w*|\\w+Exact|equals|hashCode"
                + "|toString|import(?! java\\.util\\.Arrays;))\\b|->|::|\\\"");
        Matcher matcher = words.matcher(code);
        while (matcher.find()) {
            Check.due("source has " + matcher.group(), 1, 0);
        }
        for (String line : source.split("\n")) {
            Check.due("length of " + line, Math.max(line.length(), 100), 100);
        }
    }
}
