import java.io.IOException;
import java.nio.file.Files;
import java.nio.file.Path;
import java.util.ArrayList;
import java.util.List;
import java.util.Map;
import java.util.TreeMap;
import java.util.regex.Matcher;
import java.util.regex.Pattern;

/** The rules 8 and 11 of ../shared/LANGUAGE.md: no method calls itself, not by others either, and calls go at most eight deep. */
public final class CallDepthTest {
    private static final Due due = new Due("CallDepthTest");
    private static final int DEEPEST = 8, MOST_PARAMETERS = 7;
    private static final Pattern METHOD = Pattern.compile("(?m)^( +)(?:(?:public|private|static) )*\\w+ (\\w+)\\(([^()]*)\\) \\{$");
    private static final Pattern CALL = Pattern.compile("(?<!Math\\.|Integer\\.|System\\.)\\b(\\w+)\\(");

    private final Map<String, String> bodies = new TreeMap<>();

    public static void main(String[] args) throws IOException {
        CallDepthTest test = new CallDepthTest();
        test.read(Files.readString(Path.of("src/main/java/TurnBids.java")));
        for (String method : test.bodies.keySet()) {
            List<String> chain = test.deepest(method, List.of());
            due.is("calls of " + chain + " are at most " + DEEPEST + " deep", chain.size() <= DEEPEST ? 1 : 0, 1);
        }
        due.is("run() is read through to its payments", test.deepest("run", List.of()).contains("pay") ? 1 : 0, 1);
        due.end();
    }

    private void read(String source) {
        Matcher method = METHOD.matcher(source);
        while (method.find()) {
            String name = method.group(2);
            int end = source.indexOf("\n" + method.group(1) + "}\n", method.end());
            String known = bodies.put(name, source.substring(method.end(), end));
            due.is("methods are told apart by their names alone: " + name, known == null ? 1 : 0, 1);
            due.is("parameters of " + name, method.group(3).split(",").length <= MOST_PARAMETERS ? 1 : 0, 1);
        }
    }

    /** The longest chain of calls that begins with a method. */
    private List<String> deepest(String method, List<String> ahead) {
        List<String> chain = new ArrayList<>(ahead);
        chain.add(method);
        if (ahead.contains(method)) due.is(chain + " comes back to itself", 1, 0);
        if (ahead.contains(method)) return chain;
        List<String> deepest = chain;
        Matcher call = CALL.matcher(bodies.get(method));
        while (call.find()) {
            if (!bodies.containsKey(call.group(1))) continue;
            List<String> through = deepest(call.group(1), chain);
            if (through.size() > deepest.size()) deepest = through;
        }
        return deepest;
    }
}
