import java.io.IOException;
import java.lang.reflect.InvocationTargetException;
import java.lang.reflect.Method;
import java.nio.file.Files;
import java.nio.file.Path;
import java.util.ArrayList;
import java.util.List;
import java.util.regex.Matcher;
import java.util.regex.Pattern;

/** Makes the calls of each example of ../shared/DOC.md on a new object, just as they stand there. */
public final class DocumentTest {
    private static final Path DOCUMENT = Path.of("..", "shared", "DOC.md");
    private static final Pattern EXAMPLE = Pattern.compile("```text\n(.*?)\\.\n```", Pattern.DOTALL);
    private static final Pattern CALL = Pattern.compile("(\\w+)\\((.*)\\) = (.*)");

    public static void main(String[] args) throws IOException, IllegalAccessException {
        List<String> examples = examples();
        Due.is("the document has examples", examples.isEmpty(), false);
        for (String example : examples) {
            TwofrontArcade x = new TwofrontArcade();
            for (String call : example.trim().split(";\\s*")) {
                play(x, call);
            }
        }
        Due.end("DocumentTest");
    }

    private static List<String> examples() throws IOException {
        List<String> examples = new ArrayList<>();
        Matcher matcher = EXAMPLE.matcher(Files.readString(DOCUMENT));
        while (matcher.find()) {
            examples.add(matcher.group(1));
        }
        return examples;
    }

    private static void play(TwofrontArcade x, String text) throws IllegalAccessException {
        Matcher call = CALL.matcher(text);
        if (!call.matches()) {
            Due.is("a call of an example", text, "a name, arguments and an answer");
            return;
        }
        Due.is(text, answer(x, call.group(1), call.group(2)), call.group(3));
    }

    private static String answer(TwofrontArcade x, String name, String arguments) throws IllegalAccessException {
        Method method = methodOf(name);
        String[] texts = arguments.isEmpty() ? new String[0] : arguments.split(", ");
        if (method == null || method.getParameterCount() != texts.length) {
            return "no such call";
        }
        Object[] values = new Object[texts.length];
        for (int i = 0; i < values.length; i++) {
            values[i] = valueOf(texts[i], method.getParameterTypes()[i]);
        }
        try {
            return String.valueOf(method.invoke(x, values));
        } catch (InvocationTargetException e) {
            return "throws." + e.getCause().getClass().getSimpleName();
        }
    }

    private static Method methodOf(String name) {
        for (Method method : TwofrontArcade.class.getMethods()) {
            if (method.getName().equals(name)) {
                return method;
            }
        }
        return null;
    }

    private static Object valueOf(String text, Class<?> type) {
        if (type == char.class) {
            // between its quotes
            return text.charAt(1);
        }
        if (type == boolean.class) {
            return Boolean.valueOf(text);
        }
        return Integer.valueOf(text);
    }
}
