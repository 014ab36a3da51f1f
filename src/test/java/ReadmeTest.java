import java.io.File;
import java.io.IOException;
import java.lang.reflect.Method;
import java.lang.reflect.Modifier;
import java.nio.charset.StandardCharsets;
import java.nio.file.Files;
import java.nio.file.Path;
import java.util.ArrayList;
import java.util.List;
import java.util.Set;
import java.util.TreeSet;
import java.util.regex.Matcher;
import java.util.regex.Pattern;

/** README.md: the example's calls and what they answer, the table of calls, and the names of the tests. */
public final class ReadmeTest {
    private static final Path README = Path.of("README.md");
    private static final Path TESTS = Path.of("src", "test", "java");

    public static void main(String[] args) throws IOException {
        String page = Files.readString(README, StandardCharsets.UTF_8);
        String own = Files.readString(TESTS.resolve("ReadmeTest.java"), StandardCharsets.UTF_8);
        example();
        calls("the example", lines(between(page, "```java\n", "```")), lines(between(own, "// example\n", "// end")));
        table(between(page, "| --- | --- |\n", "\n\n"));
        names(page);
        Checks.finish("ReadmeTest");
    }

    /** The example of the page, line by line; what its remarks tell is looked at behind it. */
    private static void example() {
        // example
        TossupHall hall = new TossupHall();
        int question = hall.question(0, 17);
        hall.word(question, 42);
        hall.power(question, 2);
        hall.type('y');
        hall.type('e');
        hall.type('s');
        hall.line(question, 'a');
        hall.quota(0, 1);
        int packet = hall.packet();
        int first = hall.team(3);
        int player = hall.player(first, 25000);
        int other = hall.team(4);
        hall.player(other, 0);
        int match = hall.match(first, other, packet);
        hall.read(1);
        hall.buzz(player, 1000);
        hall.lock();
        hall.type('y');
        hall.type('e');
        hall.type('s');
        char verdict = hall.answer();
        hall.part(true);
        hall.part(true);
        hall.part(true);
        int score = hall.score(match, false);
        hall.protest(0);
        int scoreIf = hall.scoreIf(match, 1, false);
        boolean matters = hall.matters(match);
        int stays = hall.resolve(match, 0, false);
        int leader = hall.ranked(0, 0);
        long upper = hall.rating(first, false);
        long lower = hall.rating(first, true);
        // end
        Checks.letter("README: answer", verdict, 'r');
        Checks.same("README: right in power", hall.count(player, 'p'), 1);
        Checks.same("README: score", score, 45);
        Checks.letter("README: phase behind the last tossup", hall.phase(), '-');
        Checks.same("README: scoreIf", scoreIf, 0);
        Checks.same("README: scoreIf of the other team", hall.scoreIf(match, 1, true), 0);
        Checks.holds("README: matters", matters);
        Checks.same("README: resolve", stays, 45);
        Checks.same("README: ranked", leader, first);
        Checks.same("README: upper number", upper, 5);
        Checks.same("README: lower number", lower, 8);
        Checks.fails("README: answer behind it", IllegalStateException.class, hall::answer);
        Checks.same("README: the text behind all", hall.wipe(), 0);
    }

    private static String between(String whole, String head, String tail) {
        int from = whole.indexOf(head);
        int to = from < 0 ? -1 : whole.indexOf(tail, from + head.length());
        Checks.holds("found: " + head.trim(), to >= 0);
        return to < 0 ? "" : whole.substring(from + head.length(), to);
    }

    private static List<String> lines(String code) {
        List<String> found = new ArrayList<>();
        for (String line : code.split("\n")) {
            String call = line.replaceAll("//.*", "").trim();
            if (!call.isEmpty()) {
                found.add(call);
            }
        }
        return found;
    }

    private static void calls(String what, List<String> got, List<String> due) {
        Checks.same(what + ": lines", got.size(), due.size());
        for (int i = 0; i < got.size() && i < due.size(); i++) {
            Checks.holds(what + ": " + got.get(i) + ", run as: " + due.get(i), got.get(i).equals(due.get(i)));
        }
    }

    private static void table(String rows) {
        Set<String> due = new TreeSet<>();
        for (Method method : TossupHall.class.getDeclaredMethods()) {
            if (Modifier.isPublic(method.getModifiers())) {
                due.add(method.getName());
            }
        }
        Matcher named = Pattern.compile("`(\\w+)`").matcher(rows);
        Set<String> got = new TreeSet<>();
        while (named.find()) {
            Checks.holds("once in the table: " + named.group(1), got.add(named.group(1)));
        }
        Checks.holds("the table has the calls " + due + ", and it has " + got, got.equals(due));
    }

    /** Each test that .ci/run starts and each class of single sentences is told, and none that is not there. */
    private static void names(String page) {
        Set<String> got = new TreeSet<>();
        Matcher named = Pattern.compile("`([A-Z]\\w+(?:Test|Edges|Model))`").matcher(page);
        while (named.find()) {
            got.add(named.group(1));
        }
        Set<String> due = new TreeSet<>();
        File[] files = TESTS.toFile().listFiles();
        for (int i = 0; files != null && i < files.length; i++) {
            String name = files[i].getName().replace(".java", "");
            if (name.matches("\\w+(Test|Edges|Model)")) {
                due.add(name);
            }
        }
        Checks.holds("the page has the tests " + due + ", and it has " + got, got.equals(due));
    }
}
