import java.io.IOException;
import java.lang.reflect.Method;
import java.lang.reflect.Modifier;
import java.nio.file.Files;
import java.nio.file.Path;
import java.util.List;
import java.util.stream.Collectors;
import java.util.stream.Stream;

/** README.md: what it shows is so, and it leaves out no call and no test. */
public final class ReadmeTest {
    private static List<String> readme;

    public static void main(String[] args) throws IOException {
        readme = Files.readAllLines(Path.of("README.md"));
        commit();
        takeOver();
        texts();
        everyCallIsTold();
        everyTestIsTold();
        Checks.end();
    }

    private static void commit() {
        Checks.about("README: two stores that commit together");
        PaxosCommit x = new PaxosCommit(1);
        int t = x.begin();
        shown("int t = x.begin();", t);
        shown("x.write(t, 0, 1, 5);", x.write(t, 0, 1, 5));
        shown("x.write(t, 2, 3, 7);", x.write(t, 2, 3, 7));
        shown("x.request(t);", x.request(t));
        while (x.count(0) > 0) {
            x.deliver(0, false);
        }
        shown("x.outcome(0, t);", x.outcome(0, t));
        shown("x.value(2, 3);", x.value(2, 3));
    }

    private static void takeOver() {
        Checks.about("README: a leader that takes over");
        PaxosCommit y = new PaxosCommit(1);
        int u = y.begin();
        shown("int u = y.begin();", u);
        shown("y.write(u, 1, 0, 9);", y.write(u, 1, 0, 9));
        shown("y.request(u);", y.request(u));
        shown("y.lose(0);", y.lose(0));
        shown("y.take(1, u);", y.take(1, u));
        while (y.count(0) > 0) {
            y.deliver(0, false);
        }
        shown("y.outcome(0, u);", y.outcome(0, u));
        shown("y.state(u, 1);", y.state(u, 1));
        shown("y.lock(1, 0);", y.lock(1, 0));
    }

    /** The answer is the number that README.md has behind this line of code. */
    private static void shown(String code, int answer) {
        String[] halves = lineWith(code).split(" // ");
        String told = halves.length < 2 ? "nothing" : halves[1].split("[ ,]")[0];
        Checks.due("README.md: " + code, told, String.valueOf(answer));
    }

    private static String lineWith(String part) {
        for (String line : readme) {
            if (line.contains(part)) {
                return line;
            }
        }
        return "";
    }

    private static void texts() {
        Checks.about("README: the texts of messages");
        Run x = new Run(1);
        x.begin();
        x.write(0, 1, 0, 5);
        x.request(0);
        told(x, "Pt0s1");
        Checks.bring(x, "Pt0s1");
        told(x, "Vt0s1a2b0Y");
        Checks.bring(x, "Vt0s1a0b0Y", "Vt0s1a2b0Y");
        told(x, "Tt0s1a2l0b0Y");
        x.take(1, 0);
        told(x, "At0a2b1");
        Checks.bring(x, "At0a2b1");
        told(x, "Rt0a2l1b1-0Y-");
        Checks.bring(x, "Tt0s1a0l0b0Y", "Tt0s1a2l0b0Y");
        told(x, "Ot0s1Y");
    }

    private static void told(Run x, String text) {
        Checks.dueInNet("net", x, text);
        Checks.due("README.md tells " + text, lineWith("| `" + text + "` |").isEmpty(), false);
    }

    private static void everyCallIsTold() {
        Checks.about("README: how to use the class");
        for (Method method : PaxosCommit.class.getDeclaredMethods()) {
            if (Modifier.isPublic(method.getModifiers())) {
                String start = "| `" + method.getName() + "(";
                Checks.due("README.md tells " + method, lineWith(start).isEmpty(), false);
            }
        }
    }

    private static void everyTestIsTold() throws IOException {
        Checks.about("README: how to run its tests");
        Checks.due("README.md tells .ci/run", lineWith("`.ci/run`").isEmpty(), false);
        for (String test : testNames()) {
            boolean told = false;
            for (String line : readme) {
                told |= line.startsWith("|") && List.of(line.split("[ |,]+")).contains(test);
            }
            Checks.due("README.md tells " + test, told, true);
        }
    }

    private static List<String> testNames() throws IOException {
        try (Stream<Path> files = Files.list(Path.of("src/test/java"))) {
            return files.map(file -> file.getFileName().toString())
                .filter(name -> name.endsWith("Test.java"))
                .map(name -> name.substring(0, name.length() - ".java".length()))
                .sorted().collect(Collectors.toList());
        }
    }
}
