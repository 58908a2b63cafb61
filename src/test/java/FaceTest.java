import java.io.IOException;
import java.lang.reflect.Constructor;
import java.lang.reflect.Field;
import java.lang.reflect.Method;
import java.lang.reflect.Modifier;
import java.nio.file.Files;
import java.nio.file.Path;
import java.util.Arrays;
import java.util.Set;
import java.util.TreeSet;
import java.util.regex.Pattern;

/** The public face of the document, and the rules of LANGUAGE.md that can be seen from outside. */
public final class FaceTest {
    private static final String SOURCE = "src/main/java/ClientGuarantees.java";

    private static final String[] METHODS = {
        "int setGuarantees(int, int)", "int forget(int)", "int readCount(int, int)", "int writeCount(int, int)",
        "int read(int, int, int)", "int write(int, int, int, int)", "int sync(int, int)",
        "int readBreaches(int, int)", "int writeBreaches(int, int)", "int readableReplica(int)",
        "int writableReplica(int)", "int syncsForRead(int, int)", "int count(int, int)", "int clock(int)",
        "int peek(int, int)", "int compare(int, int)", "int breaches(int)", "int append(int)", "int clearText()",
        "int execute()", "int undo()", "int errorCount(int)", "int writes()", "long digest()",
    };

    private static final String[] CONSTANTS = {
        "OUT_OF_RANGE", "NOT_ALLOWED", "FULL", "ABSENT", "NOTHING_SAVED", "NONE",
    };

    public static void main(String[] args) throws IOException {
        face();
        classesInside();
        privateNames();
        words();
        Check.end();
    }

    private static void face() {
        Class<?> type = ClientGuarantees.class;
        Check.holds("the class is public and final",
                Modifier.isPublic(type.getModifiers()) && Modifier.isFinal(type.getModifiers()));
        Set<String> methods = new TreeSet<>();
        for (Method method : type.getDeclaredMethods()) {
            if (!Modifier.isPrivate(method.getModifiers())) {
                Check.holds(method + " is public and no static",
                        Modifier.isPublic(method.getModifiers()) && !Modifier.isStatic(method.getModifiers()));
                methods.add(signature(method));
            }
        }
        Check.holds("the methods are those of the document: " + methods,
                methods.equals(new TreeSet<>(Arrays.asList(METHODS))));
        Set<String> constants = new TreeSet<>();
        for (Field field : type.getDeclaredFields()) {
            if (!Modifier.isPrivate(field.getModifiers())) {
                constants.add(field.getName());
                Check.holds(field + " is a public constant of int", field.getType() == int.class
                        && field.getModifiers() == (Modifier.PUBLIC | Modifier.STATIC | Modifier.FINAL));
            }
        }
        Check.holds("the constants are those of the document: " + constants,
                constants.equals(new TreeSet<>(Arrays.asList(CONSTANTS))));
        Constructor<?>[] constructors = type.getDeclaredConstructors();
        Check.holds("there is one constructor, public and without arguments", constructors.length == 1
                && Modifier.isPublic(constructors[0].getModifiers()) && constructors[0].getParameterCount() == 0);
    }

    private static String signature(Method method) {
        String parameters = Arrays.toString(method.getParameterTypes());
        return method.getReturnType() + " " + method.getName()
                + "(" + parameters.substring(1, parameters.length() - 1) + ")";
    }

    private static void classesInside() {
        Class<?>[] classes = ClientGuarantees.class.getDeclaredClasses();
        Check.holds("there are at most twelve classes", classes.length < 12);
        for (Class<?> type : classes) {
            int modifiers = type.getModifiers();
            Check.holds(type + " is static and not public", Modifier.isStatic(modifiers)
                    && !Modifier.isPublic(modifiers) && !Modifier.isProtected(modifiers));
            for (Field field : type.getDeclaredFields()) {
                Check.holds(field + " is final if it is static",
                        !Modifier.isStatic(field.getModifiers()) || Modifier.isFinal(field.getModifiers()));
            }
        }
    }

    private static void privateNames() {
        Set<String> names = new TreeSet<>();
        for (String method : METHODS) {
            names.add(method.substring(method.indexOf(' ') + 1, method.indexOf('(')));
        }
        for (Method method : ClientGuarantees.class.getDeclaredMethods()) {
            Check.holds(method + " has a name of its own",
                    Modifier.isPublic(method.getModifiers()) || !names.contains(method.getName()));
        }
        for (Class<?> type : ClientGuarantees.class.getDeclaredClasses()) {
            for (Method method : type.getDeclaredMethods()) {
                Check.holds(method + " has a name of its own", !names.contains(method.getName()));
            }
        }
    }

    private static void words() throws IOException {
        String code = Files.readString(Path.of(SOURCE))
                .replaceAll("(?s)/\\*.*?\\*/", "").replaceAll("//[^\n]*", "");
        String[] forbidden = {
            "\\bthrows?\\b", "\\btry\\b", "\\bcatch\\b", "\\bsynchronized\\b", "\\bassert\\b", "\\bimport\\b",
            "\\bpackage\\b", "->", "::", "static \\{", "Exact\\b", "\\bObject\\b", "\\bhashCode\\b", "\\bequals\\b",
        };
        for (String word : forbidden) {
            Check.holds("the class does without " + word, !Pattern.compile(word).matcher(code).find());
        }
    }
}
