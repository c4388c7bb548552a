import java.io.IOException;
import java.lang.reflect.InvocationTargetException;
import java.lang.reflect.Method;
import java.nio.file.Files;
import java.nio.file.Path;
import java.util.ArrayList;
import java.util.Arrays;
import java.util.HashMap;
import java.util.HashSet;
import java.util.List;
import java.util.Map;
import java.util.Set;
import java.util.regex.Matcher;
import java.util.regex.Pattern;
import java.util.stream.Collectors;
import java.util.stream.Stream;

/**
 * The runs under src/test/edges, one for each sentence of the document that names an edge: each on a new object, with the answers
 * that are due. A call that is refused, or said to leave all as it was ("still"), is told from one that was never made by all that
 * can be seen of the object behind it.
 */
public final class EdgesTest {
    private static final Path EDGES = Path.of("src/test/edges");
    private static final Pattern CALL = Pattern.compile("(still )?(\\d+ times )?(\\w+)\\(([^)]*)\\)(?: = (-?\\w+))?");
    private static final Pattern TEXT = Pattern.compile("(text|tape) \"(.*)\"(?: = (-?\\w+))?");
    private static final List<Long> REFUSALS = Arrays.asList(-1L, -2L, -3L, -5L, -11L, -12L, -13L, -14L, -2000000000L, Long.MIN_VALUE);
    /** These take something away when they are refused, as the document says: THE TAPE, THE TRACE. */
    private static final List<String> TAKES_AWAY = Arrays.asList("seller", "act");
    private static final int LAST_CALL = 512;
    private static final Map<String, Method> FACE = new HashMap<>();
    /** The promises that the titles of the runs begin with. */
    private static final Set<Integer> PROMISES = new HashSet<>();

    private final String title;
    private final List<Call> made = new ArrayList<>();
    private final LawfulSums x = new LawfulSums();

    /** A call with what it is due to answer; null: whatever. */
    private static final class Call {
        final String name;
        final long[] given;
        final Long due;

        Call(String name, long[] given, Long due) {
            this.name = name;
            this.given = given;
            this.due = due;
        }

        long on(LawfulSums x) throws Exception {
            Method m = FACE.get(name);
            Object[] all = new Object[given.length];
            for (int i = 0; i < all.length; i++) {
                // What is asked for as an int is cast, so that MIN and MAX of a long stand for those of an int there.
                all[i] = m.getParameterTypes()[i] == long.class ? (Object) given[i] : (Object) asInt(given[i]);
            }
            try {
                return ((Number) m.invoke(x, all)).longValue();
            } catch (InvocationTargetException e) {
                throw new IllegalStateException(this + " threw", e.getCause());
            }
        }

        private static int asInt(long v) {
            return (int) Math.max(Integer.MIN_VALUE, Math.min(Integer.MAX_VALUE, v));
        }

        @Override public String toString() {
            String told = Arrays.toString(given);
            return name + "(" + told.substring(1, told.length() - 1) + ")";
        }
    }

    private EdgesTest(String title) {
        this.title = title;
    }

    public static void main(String[] args) throws Exception {
        for (Method m : LawfulSums.class.getMethods()) {
            if (m.getDeclaringClass() == LawfulSums.class) {
                FACE.put(m.getName(), m);
            }
        }
        for (Path file : files()) {
            runAll(Files.readAllLines(file));
        }
        for (int promise = 1; promise <= 43; promise++) {
            Due.holds("promise " + promise + " has a run", PROMISES.contains(promise));
        }
        Due.end("EdgesTest");
    }

    private static List<Path> files() throws IOException {
        try (Stream<Path> all = Files.list(EDGES)) {
            return all.sorted().collect(Collectors.toList());
        }
    }

    private static void runAll(List<String> lines) throws Exception {
        EdgesTest run = null;
        int calls = 0;
        for (String line : lines) {
            if (line.startsWith("== ")) {
                Due.holds("a run has calls, ahead of " + line, run == null || calls > 0);
                run = new EdgesTest(line.substring(3));
                PROMISES.add(Integer.parseInt(run.title.split("\\D")[0]));
                calls = 0;
            } else if (!line.isEmpty() && !line.startsWith("#")) {
                run.read(line);
                calls++;
            }
        }
    }

    private void read(String line) throws Exception {
        Matcher text = TEXT.matcher(line), call = CALL.matcher(line);
        if (text.matches()) {
            feed(text.group(2));
            if (text.group(1).equals("text")) {
                make(new Call("seller", new long[0], number(text.group(3))), false);
            }
        } else if (call.matches() && FACE.containsKey(call.group(3))) {
            String given = call.group(4).trim();
            long[] all = given.isEmpty() ? new long[0] : Stream.of(given.split(", *")).mapToLong(EdgesTest::number).toArray();
            int times = call.group(2) == null ? 1 : Integer.parseInt(call.group(2).split(" ")[0]);
            for (int i = 0; i < times; i++) {
                make(new Call(call.group(3), all, number(call.group(5))), call.group(1) != null);
            }
        } else {
            throw new IllegalArgumentException(title + ": what is " + line);
        }
    }

    private static Long number(String word) {
        if (word == null) {
            return null;
        }
        switch (word) {
            case "BAD": return -1L;
            case "NOT": return -2L;
            case "FULL": return -3L;
            case "STATE": return -5L;
            case "VOID": return -2000000000L;
            case "MIN": return Long.MIN_VALUE;
            case "MAX": return Long.MAX_VALUE;
            default: return Long.valueOf(word);
        }
    }

    private void feed(String text) throws Exception {
        for (int i = 0; i < text.length(); i += 4) {
            int n = Math.min(4, text.length() - i), v = 0;
            for (int k = 0; k < n; k++) {
                v |= (text.charAt(i + k) & 255) << 8 * k;
            }
            make(new Call("feed", new long[] {n, v}, null), false);
        }
    }

    private void make(Call call, boolean still) throws Exception {
        if (still || REFUSALS.contains(call.due) && !TAKES_AWAY.contains(call.name)) {
            for (int way = 0; way < Seen.WAYS; way++) {
                LawfulSums with = again(), without = again();
                call.on(with);
                String behind = Seen.of(with, way, LAST_CALL - made.size() - 1), due = Seen.of(without, way, LAST_CALL - made.size() - 1);
                Due.holds(title + ": " + call + " leaves all as it was\n  " + behind + "\n  " + due, behind.equals(due));
            }
        }
        long got = call.on(x);
        made.add(call);
        Due.holds(title + ": " + call + " is one of the first " + LAST_CALL, made.size() <= LAST_CALL);
        if (call.due != null) {
            Due.same(title + ": " + call + ", call " + made.size(), got, call.due);
        }
    }

    /** A new object behind the calls of this run. */
    private LawfulSums again() throws Exception {
        LawfulSums other = new LawfulSums();
        for (Call call : made) {
            call.on(other);
        }
        return other;
    }
}
