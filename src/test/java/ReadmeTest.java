import java.io.IOException;
import java.lang.reflect.Method;
import java.lang.reflect.Modifier;
import java.nio.file.Files;
import java.nio.file.Path;
import java.util.TreeSet;
import java.util.regex.Matcher;
import java.util.regex.Pattern;

/** The examples of README.md: each call that stands there answers what stands behind it, and no call is left out. */
public final class ReadmeTest {
    private static final Checks C = new Checks();
    private static final String MADE = "MessageMachine m = new MessageMachine();";
    private static final Pattern CALL = Pattern.compile("m\\.(\\w+)\\(([^)]*)\\); +// (-?\\w+): .+");
    private static final int EXAMPLES = 4;

    private static MessageMachine machine = new MessageMachine();
    private static int examples = 0;

    public static void main(String[] args) throws IOException, ReflectiveOperationException {
        String text = Files.readString(Path.of("README.md"));
        examples(text);
        everyCall(text);
        C.end();
    }

    private static void examples(String text) throws ReflectiveOperationException {
        boolean inside = false;
        for (String line : text.split("\n")) {
            if (line.startsWith("```")) {
                inside = line.equals("```java");
            } else if (inside) {
                follow(line);
            }
        }
        C.due("examples", examples, EXAMPLES);
    }

    private static void follow(String line) throws ReflectiveOperationException {
        if (line.equals(MADE)) {
            machine = new MessageMachine();
            examples++;
            C.sentence("README.md, example " + examples);
            return;
        }
        Matcher call = CALL.matcher(line);
        C.yes("'" + line + "' is a call with its answer", call.matches());
        if (call.matches()) {
            String answer = String.valueOf(answerOf(call.group(1), call.group(2)));
            C.yes(line + " (it answered " + answer + ")", answer.equals(call.group(3)));
        }
    }

    private static Object answerOf(String name, String arguments) throws ReflectiveOperationException {
        String[] words = arguments.isEmpty() ? new String[0] : arguments.split(", *");
        Method method = methodNamed(name);
        Object[] values = new Object[words.length];
        for (int i = 0; i < words.length; i++) {
            long value = Long.decode(words[i].replace("_", "").replace("L", ""));
            values[i] = method.getParameterTypes()[i] == long.class ? (Object) value : (Object) (int) value;
        }
        return method.invoke(machine, values);
    }

    private static Method methodNamed(String name) throws NoSuchMethodException {
        for (Method method : MessageMachine.class.getMethods()) {
            if (method.getName().equals(name)) {
                return method;
            }
        }
        throw new NoSuchMethodException(name);
    }

    private static void everyCall(String text) {
        C.sentence("README.md, the calls in short");
        TreeSet<String> told = new TreeSet<>();
        for (String line : text.split("\n")) {
            Matcher call = Pattern.compile("`(\\w+)\\([^`]*\\)`").matcher(line.startsWith("| ") ? line : "");
            while (call.find()) {
                told.add(call.group(1));
            }
        }
        TreeSet<String> face = new TreeSet<>();
        for (Method method : MessageMachine.class.getDeclaredMethods()) {
            if (Modifier.isPublic(method.getModifiers())) {
                face.add(method.getName());
            }
        }
        C.yes("told are " + told + ", the face has " + face, told.equals(face));
    }
}
