import java.io.IOException;
import java.lang.reflect.Field;
import java.lang.reflect.Method;
import java.lang.reflect.Modifier;
import java.nio.file.Files;
import java.nio.file.Path;
import java.util.List;
import java.util.regex.Matcher;
import java.util.regex.Pattern;
import java.util.stream.Stream;

/** What README.md says holds: its examples' answers, and it names each call, constant and test. */
public final class ReadmeTest {
    private static final Due due = new Due("ReadmeTest");
    private static final String MADE = "TurnBids auction = new TurnBids();";
    private static final Pattern CALL = Pattern.compile("auction\\.(\\w+)\\((.*)\\); +// (-?\\w+): .*");

    public static void main(String[] args) throws IOException, ReflectiveOperationException {
        String page = Files.readString(Path.of("README.md"));
        examples(page.lines().toList());
        namesAllOfTheFace(page);
        namesAllTests(page);
        due.end();
    }

    private static void examples(List<String> lines) throws ReflectiveOperationException {
        TurnBids auction = null;
        int calls = 0;
        for (String line : lines) {
            if (line.equals(MADE)) auction = new TurnBids();
            if (!line.startsWith("auction.")) continue;
            Matcher call = CALL.matcher(line);
            boolean canBeTried = auction != null && call.matches();
            due.is("a line of the form 'auction.call(); // answer: why': " + line, canBeTried ? 1 : 0, 1);
            if (!canBeTried) continue;
            due.is(line, answer(auction, call.group(1), call.group(2)), number(call.group(3)));
            calls++;
        }
        due.is("there are examples", calls > 10 ? 1 : 0, 1);
    }

    private static int answer(TurnBids auction, String name, String arguments) throws ReflectiveOperationException {
        if (name.equals("put")) return auction.put(Seen.packed(arguments.replaceAll("packed\\(\"(.*)\"\\)", "$1")));
        if (arguments.isEmpty()) return (int) TurnBids.class.getMethod(name).invoke(auction);
        String[] each = arguments.split(", ");
        if (each.length == 1) return (int) TurnBids.class.getMethod(name, int.class).invoke(auction, number(each[0]));
        return (int) TurnBids.class.getMethod(name, int.class, int.class).invoke(auction, number(each[0]), number(each[1]));
    }

    private static int number(String word) throws ReflectiveOperationException {
        return word.matches("-?[0-9]+") ? Integer.parseInt(word) : TurnBids.class.getField(word.replace("TurnBids.", "")).getInt(null);
    }

    private static void namesAllOfTheFace(String page) {
        for (Method method : TurnBids.class.getDeclaredMethods()) {
            if (!Modifier.isPublic(method.getModifiers())) continue;
            due.is("README.md has a row for " + method.getName(), page.contains("\n| `" + method.getName() + "(") ? 1 : 0, 1);
        }
        for (Field field : TurnBids.class.getFields()) {
            due.is("README.md names " + field.getName(), page.contains("`" + field.getName() + "`") ? 1 : 0, 1);
        }
    }

    private static void namesAllTests(String page) throws IOException {
        try (Stream<Path> files = Files.list(Path.of("src/test/java"))) {
            for (Path file : files.toList()) {
                String name = file.getFileName().toString().replace(".java", "");
                if (name.endsWith("Test")) due.is("README.md has a row for " + name, page.contains("\n| " + name + " |") ? 1 : 0, 1);
            }
        }
    }
}
