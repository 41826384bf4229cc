import java.io.IOException;
import java.lang.reflect.InvocationTargetException;
import java.lang.reflect.Method;
import java.math.BigInteger;
import java.nio.file.Files;
import java.nio.file.Path;
import java.util.ArrayList;
import java.util.Arrays;
import java.util.List;
import java.util.TreeMap;
import java.util.regex.Matcher;
import java.util.regex.Pattern;
import java.util.stream.Stream;

/**
 * Plays the runs in src/test/sentences, each of which stands below the sentence of ../shared/DOC.md that it
 * tests. Sees to it that these sentences stand in the document, that none of the document's is left out, and
 * that a plane is the same after refused calls as if they had never been made.
 *
 * A line "> ..." is a sentence (or a part of one); "new ..." makes a new plane and tells what is tested;
 * "with ..." plays a row of calls from setups.txt; "call = answer" calls the plane and says what is due.
 */
public final class Sentences {
    private static final Path DOCUMENT = Path.of("../shared/DOC.md");
    private static final Path RUNS = Path.of("src/test/sentences");
    private static final int MOST_CALLS = 512;

    private final TreeMap<String, String> parts = new TreeMap<>();
    private final TreeMap<String, List<String>> quotes = new TreeMap<>();
    private final TreeMap<String, List<String>> setups = new TreeMap<>();
    private final List<String> played = new ArrayList<>();
    private Nocommaplane plane;
    private Nocommaplane unrefused;
    private String title = "";
    private int calls;
    private int runs;
    private int wrong;

    public static void main(String[] args) throws Exception {
        Sentences test = new Sentences();
        test.readDocument();
        test.readSetups();
        try (Stream<Path> found = Files.list(RUNS)) {
            for (Path file : found.sorted().toList()) {
                String name = file.getFileName().toString();
                if (!name.equals("setups.txt") && (args.length == 0 || name.startsWith(args[0]))) {
                    test.play(file);
                }
            }
        }
        if (args.length == 0) {
            test.checkNoneLeftOut();
        }
        System.out.println("sentences: " + test.quotes.values().stream().mapToInt(List::size).sum() + ", runs: "
            + test.runs + ", calls: " + test.calls + ", wrong: " + test.wrong);
        if (test.wrong > 0) {
            System.exit(1);
        }
    }

    private void complain(String text) {
        wrong++;
        System.out.println(text);
    }

    private static String joined(String text) {
        return text.replaceAll("\\s+", " ").trim();
    }

    /** Cuts the document into "section-1" to "section-9" and "promise-01" to "promise-58". */
    private void readDocument() throws IOException {
        String[] promises = Files.readString(DOCUMENT).split("(?m)^## (?=Promise \\d+:)|^## Not promised");
        String[] sections = promises[0].split("(?m)^== (?=\\d\\. )");
        for (int i = 1; i < sections.length; i++) {
            parts.put("section-" + i, sections[i]);
        }
        for (int i = 1; i < promises.length - 1; i++) {
            parts.put(String.format("promise-%02d", i), promises[i]);
        }
        if (parts.size() != 67) {
            complain("the document has " + parts.size() + " parts");
        }
    }

    private void readSetups() throws IOException {
        List<String> setup = null;
        for (String line : Files.readAllLines(RUNS.resolve("setups.txt"))) {
            if (line.startsWith("setup ")) {
                setup = new ArrayList<>();
                setups.put(line.substring(6), setup);
            } else if (setup != null && !line.isEmpty() && !line.startsWith("#")) {
                setup.add(line);
            }
        }
    }

    private void play(Path file) throws Exception {
        String name = file.getFileName().toString().replaceFirst("\\.txt$", "");
        String part = parts.get(name);
        if (part == null) {
            complain(name + " is no part of the document");
            return;
        }
        List<String> told = quotes.computeIfAbsent(name, key -> new ArrayList<>());
        plane = null;
        boolean tested = true;
        int number = 0;
        for (String line : Files.readAllLines(file)) {
            number++;
            title = name + ":" + number;
            if (line.startsWith("> ")) {
                endRun();
                String quote = joined(line.substring(2));
                if (!joined(part).contains(quote)) {
                    complain(title + ": the document does not say: " + quote);
                }
                if (!tested) {
                    complain(title + ": the sentence ahead of this one has no run");
                }
                told.add(quote);
                tested = false;
            } else if (line.startsWith("new ")) {
                endRun();
                startRun();
                tested = true;
            } else if (line.startsWith("with ")) {
                setUp(line);
            } else if (!line.isEmpty() && !line.startsWith("#")) {
                int split = line.indexOf(" =");
                call(line.substring(0, split), line.length() > split + 3 ? line.substring(split + 3) : "");
            }
        }
        endRun();
        if (!tested) {
            complain(name + ": the last sentence has no run");
        }
    }

    private void setUp(String line) throws IllegalAccessException {
        List<String> setup = setups.get(line.substring(5));
        if (setup == null) {
            complain(title + ": there is nothing to begin " + line);
            return;
        }
        for (String call : setup) {
            if (call.startsWith("with ")) {
                setUp(call);
            } else {
                call(call, null);
            }
        }
    }

    private void startRun() {
        runs++;
        plane = new Nocommaplane();
        unrefused = new Nocommaplane();
        played.clear();
    }

    private void call(String call, String due) throws IllegalAccessException {
        String got = answer(plane, call);
        calls++;
        if (due == null ? got.startsWith("throws.") : !got.equals(due)) {
            complain(title + ": " + call + " answered " + got + ", due is " + (due == null ? "no exception" : due));
        }
        if (!got.startsWith("throws.")) {
            answer(unrefused, call);
        } else if (plane.digest() != unrefused.digest()) {
            complain(title + ": " + call + " threw, and changed something");
        }
        played.add(call);
    }

    /** Holds the plane against one on which nothing was refused, and both against what they were ahead of it all. */
    private void endRun() throws IllegalAccessException {
        if (plane == null) {
            return;
        }
        if (played.isEmpty()) {
            complain(title + ": a run without calls ahead of this");
        }
        if (played.size() > MOST_CALLS / 2) {
            complain(title + ": a run of " + played.size() + " calls ahead of this");
        }
        boolean more = true;
        for (int step = 0; more; step++) {
            String one = tellAll(plane);
            String other = tellAll(unrefused);
            if (!one.equals(other)) {
                complain(title + ": ahead of this, after " + step + " calls of undo(), refused calls had changed something:\n"
                    + one + "\n" + other);
                break;
            }
            if (plane.digest() != digestByHand(plane)) {
                complain(title + ": ahead of this the digest is not due");
            }
            more = !answer(plane, "undo").startsWith("throws.");
            answer(unrefused, "undo");
        }
        plane = null;
    }

    private static String answer(Nocommaplane on, String call) throws IllegalAccessException {
        String[] words = call.split(" ");
        Object[] values = new Object[words.length - 1];
        for (int i = 0; i < values.length; i++) {
            values[i] = Integer.parseInt(words[i + 1]);
        }
        for (Method method : Nocommaplane.class.getDeclaredMethods()) {
            if (method.getName().equals(words[0]) && method.getParameterCount() == values.length) {
                try {
                    return String.valueOf(method.invoke(on, values));
                } catch (InvocationTargetException e) {
                    return "throws." + e.getCause().getClass().getSimpleName();
                }
            }
        }
        throw new IllegalStateException("no such call: " + call);
    }

    /** Whatever can be asked without a change. */
    private static String tellAll(Nocommaplane on) throws IllegalAccessException {
        StringBuilder all = new StringBuilder();
        String[] asked = {"plane 0", "plane 1", "plane 2", "plane 3", "plane 4", "plane 5", "plane 6", "hullText 0",
            "hullText 1", "leastText 0", "leastText 1", "paper", "crossings", "overlaps", "fault", "roomText 1", "barring"};
        for (String call : asked) {
            all.append(call).append(' ').append(answer(on, call)).append('\n');
        }
        for (int k = 0; k < 10; k++) {
            all.append(answer(on, "pointText " + k)).append(' ');
            all.append(answer(on, "crossText " + k)).append(' ');
            all.append(answer(on, "overlapText " + k)).append(' ');
            all.append(answer(on, "polygonText " + k + " 1")).append('\n');
        }
        return all.toString();
    }

    /** The digest, made of what the other calls answer, and wrapped around by the library. */
    private static long digestByHand(Nocommaplane on) throws IllegalAccessException {
        List<String> asked = new ArrayList<>();
        for (int what = 0; what <= 6; what++) {
            asked.add("plane " + what);
        }
        addEach(asked, on.plane(0), 10, "pointText #");
        asked.addAll(List.of("hullSize", "hullText 0", "hullText 1", "flattest", "pairOf 0", "pairOf 1", "pairOf 2",
            "pairOf 3", "leastSet", "leastText 0", "leastText 1", "triangles", "edges", "paper", "crossings", "overlaps"));
        addEach(asked, (1 << on.crossings()) - 1, on.crossings(), "crossText #", "crossSet #");
        addEach(asked, on.plane(2), 4, "ofPolygon # 0", "ofPolygon # 1", "ofPolygon # 2", "ofPolygon # 3",
            "polygonText # 0", "polygonText # 1");
        asked.addAll(List.of("fault", "roomSize", "roomText 0", "roomText 1", "barring", "isSound"));
        BigInteger d = BigInteger.valueOf(5604);
        for (String call : asked) {
            String answer = answer(on, call);
            if (call.contains("Text") || call.equals("paper")) {
                for (char sign : (answer + "\n").toCharArray()) {
                    d = d.multiply(BigInteger.valueOf(31)).add(BigInteger.valueOf(sign));
                }
            } else {
                String value = call.equals("isSound") ? String.valueOf(answer.equals("true") ? 1 : 0) : answer;
                d = d.multiply(BigInteger.valueOf(31)).add(new BigInteger(value));
            }
        }
        return d.longValue();
    }

    private static void addEach(List<String> asked, int set, int limit, String... calls) {
        for (int k = 0; k < limit; k++) {
            for (String call : calls) {
                if ((set >> k & 1) == 1) {
                    asked.add(call.replace("#", String.valueOf(k)));
                }
            }
        }
    }

    /** Each sentence of the sections, and what each promise returns, throws, marks and puts into brackets. */
    private void checkNoneLeftOut() {
        for (String name : parts.keySet()) {
            String part = parts.get(name);
            List<String> due = new ArrayList<>();
            if (name.startsWith("section")) {
                due.add(joined(part.substring(part.indexOf('\n'))));
            } else {
                Matcher lines = Pattern.compile("(?m)^(Returns .*|Throws .*|- `.*\\(.*|.*CHANGE\\.)$").matcher(part);
                while (lines.find()) {
                    due.add(joined(lines.group(1).replaceFirst("^- `\\w+`: (0 )?", "")));
                }
            }
            for (String text : due) {
                String left = uncovered(text, quotes.getOrDefault(name, List.of()));
                if (!left.isEmpty()) {
                    complain(name + " has no test for: " + left);
                }
            }
        }
    }

    /** What is left of a text without all that is quoted (and what only stands between two sentences). */
    private static String uncovered(String text, List<String> told) {
        char[] signs = text.toCharArray();
        for (String quote : told) {
            for (int at = text.indexOf(quote); at >= 0; at = text.indexOf(quote, at + 1)) {
                Arrays.fill(signs, at, at + quote.length(), '#');
            }
            if (quote.contains(text)) {
                return "";
            }
        }
        return new String(signs).replaceAll("#[\\s,;:.]*", "").trim();
    }
}
