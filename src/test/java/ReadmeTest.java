import java.io.IOException;
import java.lang.reflect.Method;
import java.lang.reflect.Modifier;
import java.nio.file.DirectoryStream;
import java.nio.file.Files;
import java.nio.file.Path;
import java.util.HashMap;
import java.util.HashSet;
import java.util.Map;
import java.util.Set;
import java.util.regex.Matcher;
import java.util.regex.Pattern;

/** README.md: the calls that it shows answer as it says, and it names each call of the face and each test. */
public final class ReadmeTest {
    private static final Path README = Path.of("README.md"), TESTS = Path.of("src/test/java");
    private static final Pattern CALL = Pattern.compile("^x\\.(\\w+)\\(([^)]*)\\); +// (-?\\d+)(: .+)?$");
    private static final Check C = new Check();

    private static final Map<String, Method> face = new HashMap<>();
    private static final Set<String> shown = new HashSet<>();

    private static Object argument(Class<?> type, String told) {
        return type == long.class ? (Object) Long.decode(told) : (Object) Integer.decode(told);
    }

    private static void callOnce(FitOnDay x, Matcher call) throws ReflectiveOperationException {
        Method method = face.get(call.group(1));
        String[] told = call.group(2).isEmpty() ? new String[0] : call.group(2).split(", ");
        C.holds(call.group() + " is a call of the face", method != null && method.getParameterCount() == told.length);
        if (method == null || method.getParameterCount() != told.length) return;
        shown.add(method.getName());
        Object[] arguments = new Object[told.length];
        for (int i = 0; i < told.length; i++) arguments[i] = argument(method.getParameterTypes()[i], told[i]);
        C.due(call.group(), ((Number) method.invoke(x, arguments)).longValue(), Long.parseLong(call.group(3)));
    }

    private static void callAll() throws IOException, ReflectiveOperationException {
        FitOnDay x = null;
        for (String line : Files.readAllLines(README)) {
            if (line.equals("FitOnDay x = new FitOnDay();")) x = new FitOnDay();
            if (!line.startsWith("x.")) continue;
            Matcher call = CALL.matcher(line);
            boolean reads = call.matches();
            C.holds(line + " tells a call and its answer", x != null && reads);
            if (x != null && reads) callOnce(x, call);
        }
    }

    private static void eachTestIsNamed() throws IOException {
        String text = Files.readString(README);
        try (DirectoryStream<Path> files = Files.newDirectoryStream(TESTS, "*Test.java")) {
            for (Path file : files) {
                String name = file.getFileName().toString().replace(".java", "");
                C.holds(name + " is named", text.contains("| " + name + " |"));
            }
        }
    }

    public static void main(String[] args) throws IOException, ReflectiveOperationException {
        for (Method method : FitOnDay.class.getDeclaredMethods()) {
            if (Modifier.isPublic(method.getModifiers())) face.put(method.getName(), method);
        }
        callAll();
        for (String name : face.keySet()) C.holds(name + " is shown", shown.contains(name));
        eachTestIsNamed();
        C.end();
    }
}
