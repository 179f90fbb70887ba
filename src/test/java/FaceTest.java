import java.io.IOException;
import java.lang.reflect.Constructor;
import java.lang.reflect.Field;
import java.lang.reflect.Method;
import java.lang.reflect.Modifier;
import java.nio.file.Files;
import java.nio.file.Path;
import java.util.Arrays;
import java.util.List;
import java.util.TreeSet;

/** The face is the document's and no more, and the source keeps to what LANGUAGE.md lets be seen by a look at it. */
public final class FaceTest {
    private static final Checks C = new Checks();

    private static final List<String> FACE = List.of(
        "int define(int,int,int)", "boolean method(int,int,long,long)", "int make(int,int)",
        "boolean number(int,int)", "boolean move(int,int)", "boolean drop(int)", "boolean fetch(int,int,int)",
        "boolean kind(int,int)", "boolean store(int,int,int)", "boolean inherit(int,int)", "boolean send(int,int)",
        "int run(int)", "boolean abort()", "int sweep()", "int state()", "int reason()", "int active()",
        "int stack(int)", "int handle(int)", "int field(int,int)", "int classOf(int)", "int count(int)",
        "int alive()", "int lookup(int,int)");

    private static final List<String> RULED_OUT = List.of(
        "import ", "package ", "->", "::", "throw ", "try {", "finally {", "synchronized", "assert ", "static {",
        "System.", "Math.", "new Object", "var ");

    public static void main(String[] args) throws IOException {
        publicFace();
        privateRest();
        source();
        C.end();
    }

    private static void publicFace() {
        C.due("modifiers", MessageMachine.class.getModifiers(), Modifier.PUBLIC | Modifier.FINAL);
        TreeSet<String> found = new TreeSet<>();
        TreeSet<String> names = new TreeSet<>();
        for (Method m : MessageMachine.class.getDeclaredMethods()) {
            if (Modifier.isPublic(m.getModifiers())) {
                found.add(m.toString().replace("public ", "").replace("MessageMachine.", ""));
                names.add(m.getName());
            } else {
                C.yes(m + " is private", Modifier.isPrivate(m.getModifiers()));
            }
        }
        C.yes("methods are those of the face: " + found, found.equals(new TreeSet<>(FACE)));
        for (Class<?> inside : MessageMachine.class.getDeclaredClasses()) {
            C.yes(inside + " is static", Modifier.isStatic(inside.getModifiers()));
            C.no(inside + " is public", Modifier.isPublic(inside.getModifiers()));
            for (Method m : inside.getDeclaredMethods()) {
                C.no(m + " bears a name of the face", names.contains(m.getName()));
            }
            C.yes(inside + " has twenty fields at most", ownFields(inside) <= 20);
        }
        Constructor<?>[] made = MessageMachine.class.getDeclaredConstructors();
        C.due("one constructor", made.length, 1);
        C.due("without arguments", made[0].getParameterCount(), 0);
        C.yes("public", Modifier.isPublic(made[0].getModifiers()));
    }

    private static long ownFields(Class<?> inside) {
        return Arrays.stream(inside.getDeclaredFields()).filter(f -> !Modifier.isStatic(f.getModifiers())).count();
    }

    private static void privateRest() {
        for (Field f : MessageMachine.class.getDeclaredFields()) {
            boolean bad = f.getName().equals("BAD");
            C.due(f + " public", Modifier.isPublic(f.getModifiers()) ? 1 : 0, bad ? 1 : 0);
            C.due(f + " private", Modifier.isPrivate(f.getModifiers()) ? 1 : 0, bad ? 0 : 1);
            C.yes(f + " final", Modifier.isFinal(f.getModifiers()));
        }
    }

    private static void source() throws IOException {
        for (String line : Files.readAllLines(Path.of("src/main/java/MessageMachine.java"))) {
            String code = line.strip();
            if (code.startsWith("*") || code.startsWith("/**") || code.startsWith("//")) {
                continue;
            }
            for (String word : RULED_OUT) {
                C.no("'" + word + "' in: " + code, code.contains(word));
            }
        }
    }
}
