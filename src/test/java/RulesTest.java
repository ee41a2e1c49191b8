import java.io.IOException;
import java.lang.management.ManagementFactory;
import java.lang.reflect.Field;
import java.lang.reflect.Method;
import java.lang.reflect.Modifier;
import java.nio.file.Files;
import java.nio.file.Path;
import java.util.Set;
import java.util.TreeSet;
import java.util.regex.Matcher;
import java.util.regex.Pattern;

/** The public face, and what of ../shared/LANGUAGE.md can be seen from outside or in the text. */
public final class RulesTest {
    private static final Due due = new Due("RulesTest");
    private static final Path SOURCE = Path.of("src/main/java/TurnBids.java");
    private static final Set<String> FACE = Set.of(
        "set(int,int)", "coins(int,int)", "limit(int,int)", "prize(int,int)", "begin()", "bid(int)", "drop()", "act()",
        "finish()", "run()", "player(int,int)", "at(int)", "count(int)", "prizeOf(int)", "ifFinished(int,int)",
        "bestLimit(int,int)", "coinsBehind(int,int)", "richest(int)", "movesLeft()", "put(long)", "wipe()", "fault()",
        "undo()", "save(int)", "restore(int)");
    private static final Set<String> CONSTANTS = Set.of(
        "NO_SUCH", "BAD_VALUE", "BAD_TEXT", "TOO_MANY", "NOT_POSSIBLE", "NONE", "STEP", "FIRST", "HALF", "DROP");
    private static final String FORBIDDEN = "\\b(throw|throws|try|catch|finally|synchronized|assert|package|native|volatile|protected"
        + "|System\\.(?!arraycopy)|Thread|Object|import (?!java\\.util\\.(ArrayList|List|Iterator|Arrays);))\\b|->|::|Exact\\(|\\.stream";
    /* The interface as the document writes it: what stands ahead of the calls, and their order. */
    private static final String[] INTERFACE = {
        "// ---- changes", "set", "coins", "limit", "prize", "begin", "bid", "drop", "act", "finish", "run",
        "// ---- what there is; nothing changes", "player", "at", "count", "prizeOf",
        "// ---- what if; nothing changes", "ifFinished", "bestLimit", "coinsBehind", "richest", "movesLeft",
        "// ---- texts", "put", "wipe", "fault",
        "// ---- undo, saving", "undo", "save", "restore"};
    /* What a run may make: below as many bytes there is room for neither too many objects nor too many fields. */
    private static final long ROOM = 7_300_000;

    public static void main(String[] args) throws IOException {
        methods();
        fields();
        insideClasses();
        constants();
        interfaceSaysWhatIsAhead();
        text();
        room();
        due.end();
    }

    private static String signature(Method method) {
        StringBuilder types = new StringBuilder();
        for (Class<?> type : method.getParameterTypes()) types.append(types.length() == 0 ? "" : ",").append(type.getName());
        return method.getName() + "(" + types + ")";
    }

    private static void methods() {
        Set<String> open = new TreeSet<>();
        Set<String> names = new TreeSet<>();
        for (Method method : TurnBids.class.getDeclaredMethods()) {
            if (Modifier.isPrivate(method.getModifiers())) continue;
            open.add(signature(method));
            names.add(method.getName());
            due.is(method + " is public, of an object, and answers an int", isOfTheFace(method) ? 1 : 0, 1);
        }
        due.is("the methods are the document's: " + open, open.equals(FACE) ? 1 : 0, 1);
        for (Method method : TurnBids.class.getDeclaredMethods()) {
            if (!Modifier.isPrivate(method.getModifiers())) continue;
            due.is("private " + method.getName() + " bears a public name", names.contains(method.getName()) ? 1 : 0, 0);
        }
        due.is("constructors", TurnBids.class.getDeclaredConstructors().length, 1);
        due.is("public constructors", TurnBids.class.getConstructors().length, 1);
        due.is("the class is public and final", TurnBids.class.getModifiers(), Modifier.PUBLIC | Modifier.FINAL);
    }

    private static boolean isOfTheFace(Method method) {
        return method.getModifiers() == Modifier.PUBLIC && method.getReturnType() == int.class;
    }

    private static void fields() {
        Set<String> open = new TreeSet<>();
        for (Field field : TurnBids.class.getDeclaredFields()) {
            int modifiers = field.getModifiers();
            due.is(field + " is final if it is static", Modifier.isStatic(modifiers) && !Modifier.isFinal(modifiers) ? 1 : 0, 0);
            if (!Modifier.isPrivate(modifiers)) open.add(field.getName());
        }
        due.is("the constants are the document's: " + open, open.equals(CONSTANTS) ? 1 : 0, 1);
    }

    private static void insideClasses() {
        for (Class<?> inside : TurnBids.class.getDeclaredClasses()) {
            int modifiers = inside.getModifiers();
            due.is(inside + " is static", Modifier.isStatic(modifiers) ? 1 : 0, 1);
            due.is(inside + " is seen outside", modifiers & (Modifier.PUBLIC | Modifier.PROTECTED), 0);
            for (Field field : inside.getDeclaredFields()) {
                boolean state = Modifier.isStatic(field.getModifiers()) && !Modifier.isFinal(field.getModifiers());
                due.is(field + " is state of the class", state ? 1 : 0, 0);
            }
        }
    }

    private static void constants() {
        int[] got = {TurnBids.NO_SUCH, TurnBids.BAD_VALUE, TurnBids.BAD_TEXT, TurnBids.TOO_MANY, TurnBids.NOT_POSSIBLE, TurnBids.NONE,
            TurnBids.STEP, TurnBids.FIRST, TurnBids.HALF, TurnBids.DROP};
        due.all("constants", got, -100001, -100002, -100003, -100004, -100005, -100006, 0, 1, 2, 3);
    }

    private static void interfaceSaysWhatIsAhead() throws IOException {
        String source = Files.readString(SOURCE);
        int from = 0;
        for (String part : INTERFACE) {
            int at = source.indexOf(part.startsWith("//") ? part + "\n" : "public int " + part + "(", from);
            due.is("in the text stands in its order: " + part, at >= 0 ? 1 : 0, 1);
            from = Math.max(from, at);
        }
    }

    private static void text() throws IOException {
        String source = Files.readString(SOURCE);
        for (char sign : source.toCharArray()) {
            if (sign > 126) due.is("a sign above 126 in the text", sign, 0);
        }
        String code = source.replaceAll("(?s)/\\*.*?\\*/", "").replaceAll("//[^\n]*", "").replaceAll("'[^']+'|\"[^\"]*\"", "0")
            .replaceAll("(case [^:\n]*|default) ->", "$1:");
        Matcher forbidden = Pattern.compile(FORBIDDEN).matcher(code);
        while (forbidden.find()) due.is("in the text stands " + forbidden.group(), 1, 0);
        int since = 0;
        for (String line : source.split("\n")) {
            since = line.matches(" {4}( {4})?}") ? 0 : since + 1;
            due.is("a method of over sixty lines, at " + line, since > 60 ? 1 : 0, 0);
        }
    }

    /** All calls of a run share one room: the dearest ones, as often as an object may be called, must not fill it. */
    private static void room() {
        com.sun.management.ThreadMXBean bean = (com.sun.management.ThreadMXBean) ManagementFactory.getThreadMXBean();
        long before = bean.getCurrentThreadAllocatedBytes();
        TurnBids x = new TurnBids();
        for (int call = 0; call < 510; call += 10) {
            x.bestLimit(0, 0);
            x.coinsBehind(0, 100);
            x.richest(100);
            x.finish();
            x.begin();
            x.movesLeft();
            x.put('*');
            x.run();
            x.save(call / 10 % 2);
            x.restore(0);
        }
        long made = bean.getCurrentThreadAllocatedBytes() - before;
        due.is("bytes made by 510 calls are below " + ROOM + ": " + made, made < ROOM ? 1 : 0, 1);
    }
}
