import java.io.IOException;
import java.nio.file.Files;
import java.nio.file.Path;
import java.util.List;

/** The example of README.md: these calls stand there in this order, and answer what it says. */
public final class ReadmeTest {
    private static final String NO_ANSWER = "";

    /** A call of the example, and what it answers. */
    interface Answer {
        Object ask();
    }

    private final Check check = new Check();
    private final List<String> lines;
    private int next = 0;

    private ReadmeTest(List<String> lines) {
        this.lines = lines;
    }

    public static void main(String[] args) throws IOException {
        List<String> all = Files.readAllLines(Path.of("README.md"));
        int first = all.indexOf("```java") + 1;
        int behind = first + all.subList(first, all.size()).indexOf("```");
        new ReadmeTest(all.subList(first, behind)).run();
    }

    private void run() {
        TripGuard guard = new TripGuard(2);
        line("TripGuard guard = new TripGuard(2);", () -> NO_ANSWER);
        sense(guard, 0, 3050);
        sense(guard, 1, 3050);
        line("guard.tick();", () -> guard.tick());
        line("guard.tick();", () -> guard.tick());
        line("guard.tick();", () -> guard.tick());
        line("guard.tripped();", () -> guard.tripped());
        line("guard.event(0, 1);", () -> guard.event(0, 1));
        sense(guard, 0, 2900);
        line("guard.tick();", () -> guard.tick());
        line("guard.tick();", () -> guard.tick());
        line("guard.demands(0);", () -> guard.demands(0));
        line("guard.latched(0);", () -> guard.latched(0));
        line("guard.reset(0);", () -> {
            guard.reset(0);
            return NO_ANSWER;
        });
        line("guard.latched(0);", () -> guard.latched(0));
        check.same("lines of the example", lines.size(), next);
        check.finish();
    }

    private void sense(TripGuard guard, int channel, int value) {
        line("guard.sense(" + channel + ", 0, " + value + ");", () -> {
            guard.sense(channel, 0, value);
            return NO_ANSWER;
        });
    }

    /** The next line of the example is this statement; an answer stands first in its comment. */
    private void line(String statement, Answer answer) {
        String[] parts = (next < lines.size() ? lines.get(next) : "").split("//");
        next++;
        check.same("line " + next + " of the example", parts[0].strip(), statement);
        String due = String.valueOf(answer.ask());
        if (!due.equals(NO_ANSWER)) {
            String told = parts.length > 1 ? parts[1].strip().split(":")[0] : "nothing";
            check.same("line " + next + " of the example is said to answer", told, due);
        }
    }
}
