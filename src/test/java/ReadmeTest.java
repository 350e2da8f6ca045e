import java.io.IOException;
import java.nio.file.Files;
import java.nio.file.Path;
import java.util.EnumSet;
import java.util.Locale;
import java.util.Set;
import java.util.regex.Matcher;
import java.util.regex.Pattern;

/** README.md: the calls told under "Use" answer what it says there, and none of the face is left out. */
public final class ReadmeTest {
    private static final Pattern MADE = Pattern.compile("RoomEchoes room = new RoomEchoes\\((.*)\\);");
    private static final Pattern CALLED = Pattern.compile("room\\.(\\w+)\\((.*?)\\);(?: +// (-?\\d+): .*)?");

    private static final Check CHECK = new Check();

    private RoomEchoes room;
    private final Set<FaceCall> seen = EnumSet.noneOf(FaceCall.class);

    public static void main(String[] args) throws IOException {
        ReadmeTest test = new ReadmeTest();
        String readme = Files.readString(readme());
        example(readme).lines().forEach(test::line);
        CHECK.due("calls told", test.seen.toString(), EnumSet.allOf(FaceCall.class).toString());
        for (FaceCall call : FaceCall.values()) {
            CHECK.due("a row for " + name(call), readme.contains("\n| `" + name(call) + "(") ? 1 : 0, 1);
        }
        CHECK.due("how to run the tests", readme.contains("\n    .ci/run\n") ? 1 : 0, 1);
        CHECK.end();
    }

    private static Path readme() {
        Path source = Path.of(System.getProperty("room.source", "src/main/java/RoomEchoes.java"));
        return source.toAbsolutePath().normalize().resolve("../../../../README.md").normalize();
    }

    private static String example(String readme) {
        String opening = "```java\n";
        int from = readme.indexOf(opening) + opening.length();
        return readme.substring(from, readme.indexOf("```", from));
    }

    private static String name(FaceCall call) {
        return call.name().toLowerCase(Locale.ROOT);
    }

    private void line(String line) {
        Matcher made = MADE.matcher(line);
        Matcher called = CALLED.matcher(line);
        if (made.matches()) {
            long[] sizes = numbers(made.group(1));
            room = new RoomEchoes((int) sizes[0], (int) sizes[1], (int) sizes[2]);
        } else if (called.matches()) {
            FaceCall call = FaceCall.valueOf(called.group(1).toUpperCase(Locale.ROOT));
            long due = called.group(3) == null ? 0 : Long.parseLong(called.group(3));
            seen.add(call);
            CHECK.answers(line, () -> call.answer(room, numbers(called.group(2))), due);
        } else {
            CHECK.due("a line of the example", line, "a call with its answer");
        }
    }

    private static long[] numbers(String written) {
        String[] parts = written.replace("RoomEchoes.NONE", "" + RoomEchoes.NONE).split(", ");
        long[] numbers = new long[parts.length];
        for (int i = 0; i < parts.length; i++) {
            numbers[i] = Long.parseLong(parts[i]);
        }
        return numbers;
    }
}
