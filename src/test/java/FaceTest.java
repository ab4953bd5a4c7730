import java.lang.reflect.Constructor;
import java.lang.reflect.Field;
import java.lang.reflect.Method;
import java.lang.reflect.Modifier;
import java.util.Arrays;
import java.util.TreeSet;

/** The public face, letter by letter, and that nothing else can be seen from outside. */
public final class FaceTest {
    private static final String STATE = "IllegalStateException";
    private static final String ARGUMENT = "IllegalArgumentException";
    private static final String ELEMENT = "NoSuchElementException";
    private static final String INDEX = "IndexOutOfBoundsException";

    public static void main(String[] args) {
        constants();
        constructor();
        methods();
        hiddenMembers();
        Check.over();
    }

    private static void constants() {
        Check.due("NONE", Archeloft.NONE, -1);
        Check.due("ADD", Archeloft.ADD, 0);
        Check.due("TAKE", Archeloft.TAKE, 1);
        Check.due("END", Archeloft.END, 2);
        Check.due("MAKE", Archeloft.MAKE, 3);
        Check.due("public fields", Archeloft.class.getFields().length, 5);
        for (Field field : Archeloft.class.getFields()) {
            int modifiers = field.getModifiers();
            Check.due(field.getName() + " is a constant",
                    Modifier.isStatic(modifiers) && Modifier.isFinal(modifiers) && field.getType() == int.class, true);
        }
    }

    private static void constructor() {
        Check.due("the class is public and final", Archeloft.class.getModifiers(),
                Modifier.PUBLIC | Modifier.FINAL);
        Constructor<?>[] constructors = Archeloft.class.getDeclaredConstructors();
        Check.due("constructors", constructors.length, 1);
        Check.due("parameters of the constructor", constructors[0].getParameterCount(), 0);
        Check.due("the constructor is public", constructors[0].getModifiers(), Modifier.PUBLIC);
    }

    private static void methods() {
        TreeSet<String> due = new TreeSet<>(Arrays.asList(
                method("int", "make", 0, STATE),
                method("int", "end", 1, ELEMENT, STATE),
                method("int", "adopt", 2, ELEMENT, ARGUMENT, STATE),
                method("int", "entities", 0),
                method("boolean", "isThere", 1),
                method("int", "children", 1, ELEMENT),
                method("int", "add", 3, ELEMENT, ARGUMENT, STATE),
                method("int", "take", 2, ELEMENT, ARGUMENT, STATE),
                method("int", "set", 3, ELEMENT, ARGUMENT, STATE),
                method("int", "value", 2, ELEMENT, ARGUMENT, STATE),
                method("int", "mark", 2, ELEMENT, ARGUMENT, STATE),
                method("int", "kinds", 1, ELEMENT),
                method("int", "rows", 0),
                method("int", "setOf", 1, INDEX),
                method("int", "size", 1, INDEX),
                method("int", "entityAt", 2, INDEX),
                method("int", "question", 3, ARGUMENT, STATE),
                method("int", "answers", 1, INDEX),
                method("int", "answersOneByOne", 1, INDEX),
                method("int", "answer", 2, INDEX),
                method("int", "answeringRows", 1, INDEX),
                method("int", "changed", 2, INDEX),
                method("int", "walk", 1, INDEX, STATE),
                method("int", "next", 0, STATE),
                method("int", "defer", 4, ARGUMENT, STATE),
                method("int", "finish", 0, STATE),
                method("int", "system", 2, ARGUMENT, STATE),
                method("int", "stage", 1, INDEX),
                method("int", "stages", 0),
                method("int", "run", 0, STATE),
                method("int", "tick", 0)));
        TreeSet<String> got = new TreeSet<>();
        for (Method method : Archeloft.class.getDeclaredMethods()) {
            if (Modifier.isPublic(method.getModifiers())) {
                got.add(text(method));
            }
        }
        Check.due("the public methods", got.toString(), due.toString());
    }

    private static void hiddenMembers() {
        TreeSet<String> publicNames = new TreeSet<>();
        for (Method method : Archeloft.class.getDeclaredMethods()) {
            if (Modifier.isPublic(method.getModifiers())) {
                publicNames.add(method.getName());
            }
        }
        for (Method method : Archeloft.class.getDeclaredMethods()) {
            int modifiers = method.getModifiers();
            if (!Modifier.isPublic(modifiers)) {
                Check.due(method.getName() + " is private", Modifier.isPrivate(modifiers), true);
                Check.due(method.getName() + " bears a public name", publicNames.contains(method.getName()), false);
            }
        }
        for (Field field : Archeloft.class.getDeclaredFields()) {
            int modifiers = field.getModifiers();
            Check.due(field.getName() + " is private or public",
                    Modifier.isPrivate(modifiers) || Modifier.isPublic(modifiers), true);
        }
    }

    private static String method(String type, String name, int parameters, String... exceptions) {
        return type + " " + name + "/" + parameters + Arrays.toString(exceptions);
    }

    private static String text(Method method) {
        String[] exceptions = new String[method.getExceptionTypes().length];
        for (int i = 0; i < exceptions.length; i++) {
            exceptions[i] = method.getExceptionTypes()[i].getSimpleName();
        }
        for (Class<?> parameter : method.getParameterTypes()) {
            Check.due("a parameter of " + method.getName(), parameter.getName(), "int");
        }
        return method(method.getReturnType().getName(), method.getName(), method.getParameterCount(), exceptions);
    }
}
