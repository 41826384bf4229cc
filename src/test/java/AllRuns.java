import java.io.IOException;
import java.lang.reflect.InvocationTargetException;
import java.lang.reflect.Method;
import java.nio.file.Files;
import java.nio.file.Path;
import java.util.ArrayList;
import java.util.List;
import java.util.TreeSet;
import java.util.stream.Stream;

/**
 * Plays the runs in src/test/promises and src/test/runs. A line "new ..." makes a new plane, a line
 * "call = answer" calls it and says what is due; an answer throws.X means that the call throws X
 * (and then changes nothing).
 */
public final class AllRuns {
    private static final int PROMISES = 58;

    private int calls;
    private int wrong;
    private String title = "";
    private Nocommaplane plane;
    private final TreeSet<Integer> promises = new TreeSet<>();

    public static void main(String[] args) throws Exception {
        AllRuns all = new AllRuns();
        all.playAll("src/test/promises");
        all.playAll("src/test/runs");
        for (int promise = 1; promise <= PROMISES; promise++) {
            if (!all.promises.contains(promise)) {
                all.complain("promise " + promise + " has no test");
            }
        }
        System.out.println(all.calls + " calls, " + all.wrong + " wrong");
        if (all.wrong > 0) {
            System.exit(1);
        }
    }

    private void playAll(String directory) throws Exception {
        List<Path> files = new ArrayList<>();
        try (Stream<Path> found = Files.list(Path.of(directory))) {
            found.filter(path -> path.toString().endsWith(".txt")).sorted().forEach(files::add);
        }
        if (files.isEmpty()) {
            complain("nothing in " + directory);
        }
        for (Path file : files) {
            play(file);
        }
    }

    private void play(Path file) throws IOException, IllegalAccessException {
        int before = calls;
        int number = 0;
        plane = new Nocommaplane();
        for (String line : Files.readAllLines(file)) {
            number++;
            if (line.startsWith("new")) {
                plane = new Nocommaplane();
                title = line;
            } else if (!line.isEmpty() && !line.startsWith("#")) {
                check(file.getFileName() + ":" + number + " (" + title + ")", line);
            }
        }
        String name = file.getFileName().toString();
        if (calls > before && name.matches("\\d\\d-.*")) {
            promises.add(Integer.parseInt(name.substring(0, 2)));
        }
    }

    private void check(String where, String line) throws IllegalAccessException {
        int split = line.indexOf(" =");
        String call = line.substring(0, split);
        String due = line.length() > split + 3 ? line.substring(split + 3) : "";
        long before = due.startsWith("throws.") ? plane.digest() : 0;
        String got = answer(call);
        calls++;
        if (!got.equals(due)) {
            complain(where + ": " + call + " answered " + got + ", due is " + due);
        } else if (due.startsWith("throws.") && plane.digest() != before) {
            complain(where + ": " + call + " threw, and changed something");
        }
    }

    private String answer(String call) throws IllegalAccessException {
        String[] parts = call.split(" ");
        Object[] values = new Object[parts.length - 1];
        for (int i = 0; i < values.length; i++) {
            values[i] = Integer.parseInt(parts[i + 1]);
        }
        try {
            Object answer = method(parts[0]).invoke(plane, values);
            return answer instanceof Boolean ? (Boolean) answer ? "1" : "0" : String.valueOf(answer);
        } catch (InvocationTargetException e) {
            return "throws." + e.getCause().getClass().getSimpleName();
        }
    }

    private static Method method(String name) {
        for (Method method : Nocommaplane.class.getDeclaredMethods()) {
            if (method.getName().equals(name)) {
                return method;
            }
        }
        throw new IllegalStateException("no method " + name);
    }

    private void complain(String text) {
        wrong++;
        System.out.println(text);
    }
}
