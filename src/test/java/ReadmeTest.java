import java.io.IOException;
import java.nio.file.Files;
import java.nio.file.Path;
import java.util.ArrayDeque;
import java.util.Deque;
import java.util.List;
import java.util.regex.Matcher;
import java.util.regex.Pattern;
import java.util.stream.Collectors;
import java.util.stream.Stream;

/** README.md says how to use the class: its calls answer what it says, and it names each test. */
public final class ReadmeTest {
    private static final Due due = new Due("ReadmeTest");
    private static final Pattern TOLD = Pattern.compile("(?m)^bells\\.(.*); +// (-?\\d+):");
    private static final Pattern WRITTEN = Pattern.compile("(?m)^for \\(char sign : \"(.*)\"\\.toCharArray\\(\\)\\) \\{$");

    private record Told(String call, int answer) {
    }

    public static void main(String[] args) throws IOException {
        String readme = Files.readString(Path.of("README.md"));
        callsAnswerWhatItSays(readme);
        everyTestIsNamed(readme);
        due.end();
    }

    private static void callsAnswerWhatItSays(String readme) {
        Deque<Told> told = new ArrayDeque<>();
        Matcher lines = TOLD.matcher(readme);
        while (lines.find()) {
            told.add(new Told(lines.group(1), Integer.parseInt(lines.group(2))));
        }
        UnheardBells bells = new UnheardBells();
        next(told, "rope(1)", bells.rope(1));
        next(told, "rope(2)", bells.rope(2));
        next(told, "pull(0, 7, 5)", bells.pull(0, 7, 5));
        next(told, "pull(1, 7, 9)", bells.pull(1, 7, 9));
        next(told, "forecast()", bells.forecast());
        next(told, "ring()", bells.ring());
        next(told, "hour()", bells.hour());
        next(told, "answered(7)", bells.answered(7));
        next(told, "guess(7)", bells.guess(7));
        next(told, "ring()", bells.ring());
        next(told, "reason(false)", bells.reason(false));
        next(told, "reason(true)", bells.reason(true));
        next(told, "undo()", bells.undo());
        Matcher text = WRITTEN.matcher(readme);
        due.that("a text in README.md", text.find());
        Due.write(bells, text.group(1));
        next(told, "run()", bells.run());
        next(told, "tell(2)", bells.tell(2));
        due.that("the line \"" + Due.lineOf(bells) + "\" in README.md", readme.contains("the line \"" + Due.lineOf(bells) + "\""));
        next(told, "character(0)", bells.character(0));
        due.that("no more calls in README.md than are made here", told.isEmpty());
    }

    /** The next call of the page is this one, and it says this answer. */
    private static void next(Deque<Told> told, String call, int answer) {
        Told its = told.isEmpty() ? new Told("nothing", 0) : told.remove();
        due.text("the next call of README.md", its.call(), call);
        due.is(call, answer, its.answer());
    }

    private static void everyTestIsNamed(String readme) throws IOException {
        try (Stream<Path> files = Files.list(Path.of("src/test/java"))) {
            List<String> names = files.map(file -> file.getFileName().toString().replace(".java", ""))
                .filter(name -> name.endsWith("Test")).sorted().collect(Collectors.toList());
            due.that("there are tests", !names.isEmpty());
            names.forEach(name -> due.that("a row of " + name, readme.contains("| `" + name + "` |")));
        }
        due.that("it says how tests are run", readme.contains("\n.ci/run\n"));
    }
}
