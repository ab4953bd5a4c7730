import java.io.IOException;
import java.lang.reflect.Constructor;
import java.lang.reflect.Field;
import java.lang.reflect.Method;
import java.lang.reflect.Modifier;
import java.nio.file.Files;
import java.nio.file.Path;
import java.util.ArrayList;
import java.util.Arrays;
import java.util.List;
import java.util.regex.Matcher;
import java.util.regex.Pattern;

/**
 * What of ../shared/LANGUAGE.md can be seen in the letters of the class and by reflection; started from the
 * project's directory.
 */
public final class LanguageTest {
    private static final Path SOURCE = Path.of("src", "main", "java", "Archeloft.java");
    private static final int MOST_LINES = 60;
    private static final int MOST_CLASSES = 12;
    private static final int MOST_FIELDS = 20;
    private static final int MOST_PARAMETERS = 7;
    private static final String[] REFUSED = {
        "\\bpackage\\b", "\\bfinally\\b", "\\bsynchronized\\b", "\\bassert\\b", "\\btry\\s*\\(", "->", "::",
        "\\bvolatile\\b", "\\bnative\\b", "\\bThread\\b", "\\bRandom\\b", "\\bSystem\\.(?!arraycopy)",
        "\\bObject\\b", "\\w+Exact\\b", "\\bstatic\\s*\\{", "\\bextends\\s+\\w*Exception\\b", "\\bgetMessage\\b",
        "\\bequals\\s*\\(", "\\bhashCode\\b", "\\btoString\\b", "\\bprotected\\b", "\\bMap\\b", "\\bSet\\b",
        "\\bcatch\\s*\\(\\s*(Exception|Throwable|RuntimeException|Error|NullPointerException|ClassCastException"
            + "|ArithmeticException|IndexOutOfBoundsException|ArrayIndexOutOfBoundsException|ArrayStoreException"
            + "|NegativeArraySizeException)\\b"};

    public static void main(String[] args) throws IOException {
        List<String> lines = Files.readAllLines(SOURCE);
        String code = withoutComments(String.join("\n", lines));
        refusedWords(code);
        imports(code);
        thrownClasses(code);
        methodsAreShort(lines);
        classesAreSmall();
        Check.over();
    }

    private static String withoutComments(String text) {
        return text.replaceAll("(?s)/\\*.*?\\*/", "").replaceAll("//[^\n]*", "");
    }

    private static void refusedWords(String code) {
        for (String refused : REFUSED) {
            Matcher found = Pattern.compile(refused).matcher(code);
            Check.due("words of the class", found.find() ? found.group() : "none", "none");
        }
    }

    private static void imports(String code) {
        Matcher found = Pattern.compile("import ([^;]+);").matcher(code);
        while (found.find()) {
            String name = found.group(1);
            boolean listed = name.matches("java\\.util\\.(ArrayList|List|Arrays|Iterator|NoSuchElementException)");
            Check.due("import of " + name + " is listed", listed, true);
        }
    }

    private static void thrownClasses(String code) {
        Matcher found = Pattern.compile("throw ([^;]+);").matcher(code);
        while (found.find()) {
            boolean written = found.group(1).matches(
                    "new (IllegalState|IllegalArgument|IndexOutOfBounds|NoSuchElement)Exception\\((\"[^\"]*\")?\\)");
            Check.due("throw " + found.group(1) + " is written out", written, true);
        }
    }

    /** A method of this class begins with a line that ends in ') {' or a throws clause, and ends with its brace. */
    private static void methodsAreShort(List<String> lines) {
        int longest = 0;
        for (int first = 0; first < lines.size(); first++) {
            String line = lines.get(first);
            String indent = line.substring(0, line.length() - line.stripLeading().length());
            if (line.matches("( {4}| {8})\\w.*\\(.*\\{") && !line.matches(" *(if|for|while|switch|do)\\b.*")) {
                int last = first;
                while (last < lines.size() - 1 && !lines.get(last).equals(indent + "}")) {
                    last++;
                }
                longest = Math.max(longest, last - first + 1);
            }
        }
        Check.due("methods were found", longest > 0, true);
        Check.due("no method is longer than " + MOST_LINES + " lines", longest <= MOST_LINES, true);
    }

    private static void classesAreSmall() {
        List<Class<?>> classes = new ArrayList<>(Arrays.asList(Archeloft.class.getDeclaredClasses()));
        for (Class<?> inside : classes) {
            Check.due(inside.getName() + " is static", Modifier.isStatic(inside.getModifiers()), true);
            Check.due(inside.getName() + " is hidden",
                    Modifier.isPublic(inside.getModifiers()) || Modifier.isProtected(inside.getModifiers()), false);
        }
        classes.add(Archeloft.class);
        Check.due("there are at most " + MOST_CLASSES + " classes", classes.size() <= MOST_CLASSES, true);
        for (Class<?> one : classes) {
            fieldsAreFew(one);
            parametersAreFew(one);
        }
    }

    private static void fieldsAreFew(Class<?> one) {
        int fields = 0;
        for (Field field : one.getDeclaredFields()) {
            if (Modifier.isStatic(field.getModifiers())) {
                Check.due(one.getName() + "." + field.getName() + " is a constant of a plain type",
                        Modifier.isFinal(field.getModifiers()) && field.getType() == int.class, true);
            } else {
                fields++;
            }
        }
        Check.due(one.getName() + " has at most " + MOST_FIELDS + " fields", fields <= MOST_FIELDS, true);
    }

    private static void parametersAreFew(Class<?> one) {
        for (Method method : one.getDeclaredMethods()) {
            Check.due(one.getName() + "." + method.getName() + " takes at most " + MOST_PARAMETERS + " parameters",
                    method.getParameterCount() <= MOST_PARAMETERS, true);
        }
        for (Constructor<?> made : one.getDeclaredConstructors()) {
            Check.due(one.getName() + " is made of at most " + MOST_PARAMETERS + " parameters",
                    made.getParameterCount() <= MOST_PARAMETERS, true);
        }
    }
}
