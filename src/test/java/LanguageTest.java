import java.io.IOException;
import java.lang.reflect.Method;
import java.lang.reflect.Modifier;
import java.nio.file.Files;
import java.nio.file.Path;
import java.util.ArrayList;
import java.util.HashMap;
import java.util.HashSet;
import java.util.List;
import java.util.Map;
import java.util.Set;
import java.util.regex.Matcher;
import java.util.regex.Pattern;

/** What of LANGUAGE.md can be seen in the program's lines. */
public final class LanguageTest {
    private static final Path SOURCE = Path.of("src/main/java/FitOnDay.java");
    private static final Pattern METHOD = Pattern.compile("^( {4}| {8})(?:(?:public|private|static|final) )*[\\w\\[\\]]+ (\\w+)\\(([^)]*)\\) \\{$");
    private static final Pattern CALL = Pattern.compile("\\b([a-z]\\w*)\\(");
    private static final Set<String> RECURSION = Set.of("ask", "own", "run");
    private static final Check C = new Check();

    private static final Map<String, Set<String>> calls = new HashMap<>();

    private static void noneOf(String code) {
        String[] words = {"import", "package", "throw", "throws", "try", "catch", "finally", "synchronized", "assert", "double", "float",
            "protected", "native", "volatile", "transient", "instanceof", "System", "Thread", "Object", "super", "this::", "var", "yield", "record"};
        for (String word : words) C.holds("no " + word, !Pattern.compile("\\b" + word + "\\b").matcher(code).find());
        for (String sign : new String[] {"->", "::", "\"", "@", "...", "Exact("}) C.holds("no " + sign, !code.contains(sign));
        for (int i = 0; i < code.length(); i++) {
            if (code.charAt(i) > 127) C.holds("a sign above 127 at " + i, false);
        }
    }

    private static void lines(List<String> lines) {
        int classes = 0;
        int fields = 0;
        int outerFields = 0;
        boolean inConstructor = false;
        for (String line : lines) {
            C.holds("long line: " + line, line.length() <= 140);
            if (line.matches("^( {4})?(public |private )(static )?final class .*")) {
                classes++;
                fields = 0;
            }
            boolean isStatic = line.matches("^ {4,8}(public |private )?static (final )?[\\w\\[\\]]+ [\\w, =].*");
            if (isStatic && !line.contains("(") && !line.contains("class")) C.holds("final: " + line, line.contains("static final "));
            if (classes > 1 && !isStatic && line.matches("^ {8}(private )?(final )?[\\w\\[\\]]+ \\w+( = .*)?;$") && !line.contains("return ")) fields++;
            if (!isStatic && line.matches("^ {4}private (final )?[\\w\\[\\]]+ \\w+( = .*)?;$")) outerFields++;
            C.holds("at most twenty fields, so far " + fields, fields <= 20 && outerFields <= 20);
            if (line.matches("^ {4,8}(public )?[A-Z]\\w*\\(.*\\) \\{")) inConstructor = true;
            if (line.matches("^ {4,8}}")) inConstructor = false;
            if (line.contains("new ")) {
                C.holds("made once an object: " + line, line.matches("^ {4,8}(private )?(static )?final [\\w\\[\\]]+ \\w+ = new .*") || inConstructor);
            }
        }
        C.holds("some twelve classes: " + classes, classes >= 2 && classes <= 12);
    }

    private static void namesOfTheirOwn(List<String> lines) {
        Set<String> face = new HashSet<>();
        for (Method method : FitOnDay.class.getDeclaredMethods()) {
            if (Modifier.isPublic(method.getModifiers())) face.add(method.getName());
        }
        for (String line : lines) {
            Matcher method = METHOD.matcher(line);
            if (!method.find() || line.startsWith("    public ")) continue;
            C.holds(method.group(2) + " is no name of the face", !face.contains(method.group(2)));
        }
    }

    private static void library(String code) {
        Matcher call = Pattern.compile("\\b(Math|Integer|Long|Arrays|System|List|String)\\.(\\w+)").matcher(code);
        while (call.find()) C.holds(call.group() + " is told", Set.of("Math.max", "Math.min", "Math.abs").contains(call.group()));
    }

    private static void methods(List<String> lines) {
        for (int i = 0; i < lines.size(); i++) {
            Matcher method = METHOD.matcher(lines.get(i));
            if (!method.find()) continue;
            int end = i;
            while (!lines.get(end).equals(method.group(1) + "}")) end++;
            C.holds(method.group(2) + " is short: " + (end - i), end - i <= 60);
            C.holds(method.group(2) + " takes at most seven", method.group(3).split(",").length <= 7);
            Set<String> called = calls.computeIfAbsent(method.group(2), k -> new HashSet<>());
            for (String line : lines.subList(i + 1, end)) {
                Matcher call = CALL.matcher(line);
                while (call.find()) called.add(call.group(1));
            }
        }
    }

    /** How many calls stand open at once, by names alone: two methods of one name count as one that calls what both call. */
    private static int deep(String method, Set<String> open) {
        if (!calls.containsKey(method) || open.contains(method)) return 0;
        open.add(method);
        int most = 0;
        for (String called : calls.get(method)) {
            if (open.contains(called)) C.holds(method + " calls " + called + ", a recursion", RECURSION.contains(called));
            if (!RECURSION.contains(called)) most = Math.max(most, deep(called, open));
        }
        open.remove(method);
        return most + 1;
    }

    public static void main(String[] args) throws IOException {
        List<String> lines = new ArrayList<>();
        for (String line : Files.readAllLines(SOURCE)) lines.add(line);
        StringBuilder code = new StringBuilder();
        for (String line : lines) {
            if (!line.strip().startsWith("//") && !line.strip().startsWith("/**")) code.append(line).append('\n');
        }
        noneOf(code.toString());
        lines(lines);
        library(code.toString());
        namesOfTheirOwn(lines);
        methods(lines);
        C.holds("methods are found", calls.size() > 100);
        for (String method : new ArrayList<>(calls.keySet())) {
            int deep = deep(method, new HashSet<>());
            C.holds(method + " goes eight deep at most: " + deep, deep <= 8);
        }
        C.end();
    }
}
