import java.io.IOException;
import java.lang.reflect.Field;
import java.lang.reflect.Method;
import java.lang.reflect.Modifier;
import java.util.Arrays;
import java.util.Set;
import java.util.TreeSet;

/** The public face of the document, and rules 1, 5 and, in part, 11 of LANGUAGE.md. */
public final class FaceTest {
    private static final String[] FACE = {
        "int desk()", "int tell(int, int, int, long, long)", "int correct(int, int, long)", "int join(int, int)",
        "long known(int, int, int, long, long)", "int conflict(int, int, int)", "int settle(int, int, int, int)",
        "boolean equal(int, int)", "int batch(int)", "boolean endBatch(int)", "int play(long, int)",
        "int find(int, int, long, int)", "int counts(int)"};

    public static void main(String[] args) throws IOException, IllegalAccessException {
        Class<?> type = ToldFacts.class;
        Check.due("public final", type.getModifiers() == (Modifier.PUBLIC | Modifier.FINAL), true);
        Check.due("one constructor", type.getDeclaredConstructors().length, 1);
        Check.due("it is public and takes nothing", type.getConstructors().length == 1
                && type.getConstructors()[0].getParameterCount() == 0, true);
        methods(type);
        fields(type);
        Check.due("few classes", type.getDeclaredClasses().length < 12, true);
        fewFields(type);
        for (Class<?> inside : type.getDeclaredClasses()) {
            fewFields(inside);
            int modifiers = inside.getModifiers();
            Check.due(inside.getName() + " is static", Modifier.isStatic(modifiers), true);
            Check.due(inside.getName() + " is inside alone",
                    Modifier.isPublic(modifiers) || Modifier.isProtected(modifiers), false);
            staticFieldsAreConstants(inside);
        }
        staticFieldsAreConstants(type);
        asTheDocumentHasIt();
        Check.end("FaceTest");
    }

    /** Read from the document itself: the constants with their values, the constructor, the methods. */
    private static void asTheDocumentHasIt() throws IOException, IllegalAccessException {
        Set<String> due = new TreeSet<>();
        for (String member : Pages.face()) {
            due.add(member.replaceAll("(int|long) \\w+(?=[,)])", "$1"));
        }
        Set<String> open = new TreeSet<>(Arrays.asList(FACE));
        open.add("ToldFacts()");
        for (Field field : ToldFacts.class.getFields()) {
            open.add(field.getType() + " " + field.getName() + " = " + field.get(null));
        }
        Check.due("the face " + open + " of the document " + due, open.equals(due), true);
    }

    private static void methods(Class<?> type) {
        Set<String> open = new TreeSet<>();
        Set<String> names = new TreeSet<>();
        for (Method method : type.getDeclaredMethods()) {
            if (Modifier.isPublic(method.getModifiers())) {
                Check.due(method + " is an object's", Modifier.isStatic(method.getModifiers()), false);
                names.add(method.getName());
                StringBuilder text = new StringBuilder();
                for (Class<?> parameter : method.getParameterTypes()) {
                    text.append(text.length() == 0 ? "" : ", ").append(parameter.getName());
                }
                open.add(method.getReturnType() + " " + method.getName() + "(" + text + ")");
            }
        }
        Check.due("the face " + open, open.equals(new TreeSet<>(Arrays.asList(FACE))), true);
        for (Method method : type.getDeclaredMethods()) {
            if (!Modifier.isPublic(method.getModifiers())) {
                Check.due(method + " is private", Modifier.isPrivate(method.getModifiers()), true);
                Check.due(method + " has a name of its own", names.contains(method.getName()), false);
            }
        }
        for (Class<?> inside : type.getDeclaredClasses()) {
            for (Method method : inside.getDeclaredMethods()) {
                Check.due(method + " has a name of its own", names.contains(method.getName()), false);
            }
        }
    }

    private static void fields(Class<?> type) {
        Set<String> open = new TreeSet<>();
        for (Field field : type.getDeclaredFields()) {
            if (Modifier.isPublic(field.getModifiers())) {
                open.add(field.getName());
                Check.due(field + " is a constant", field.getModifiers(),
                        Modifier.PUBLIC | Modifier.STATIC | Modifier.FINAL);
                Check.due(field + " is an int", field.getType() == int.class, true);
            } else {
                Check.due(field + " is private", Modifier.isPrivate(field.getModifiers()), true);
            }
        }
        Check.due("the constants " + open, open.equals(Set.of("NONE", "FULL")), true);
    }

    private static void fewFields(Class<?> type) {
        int fields = 0;
        for (Field field : type.getDeclaredFields()) {
            fields += Modifier.isStatic(field.getModifiers()) ? 0 : 1;
        }
        Check.due(type + " has few fields", fields <= 20, true);
    }

    private static void staticFieldsAreConstants(Class<?> type) {
        Set<Class<?>> types = Set.of(int.class, long.class, boolean.class, char.class, String.class);
        for (Field field : type.getDeclaredFields()) {
            if (Modifier.isStatic(field.getModifiers())) {
                Check.due(field + " is final", Modifier.isFinal(field.getModifiers()), true);
                Check.due(field + " is a plain constant", types.contains(field.getType()), true);
            }
        }
    }
}
