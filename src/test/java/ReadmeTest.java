import java.io.IOException;
import java.nio.file.Files;
import java.nio.file.Path;
import java.util.ArrayList;
import java.util.Comparator;
import java.util.List;
import java.util.Set;
import java.util.TreeSet;
import java.util.regex.Matcher;
import java.util.regex.Pattern;
import java.util.stream.Stream;

/** README.md: who follows it to the letter gets what it says, and its tables name each call as the document does. */
public final class ReadmeTest {
    private static Path place;

    public static void main(String[] args) throws Exception {
        String readme = Files.readString(Path.of("README.md"));
        List<String> shells = blocks(readme, "sh");
        Check.due("commands: of the example, of all tests, of one test", shells.size(), 3);
        place = Files.createTempDirectory("readme");
        try {
            copySources();
            Files.writeString(place.resolve("Example.java"), blocks(readme, "java").get(0));
            Check.due("what the example prints", run(shells.get(0)), blocks(readme, "text").get(0));
            Check.due("the command of all tests", shells.get(1), "bash .ci/run\n");
            Check.due("what one test prints", run(shells.get(2)), "EndTest: all answers are as due\n");
        } finally {
            removeAll();
        }
        checkCalls(readme);
        checkTests(readme);
        Check.end("ReadmeTest");
    }

    private static List<String> blocks(String readme, String kind) {
        List<String> found = new ArrayList<>();
        Matcher block = Pattern.compile("(?ms)^```" + kind + "\\n(.*?)^```$").matcher(readme);
        while (block.find()) {
            found.add(block.group(1));
        }
        return found;
    }

    private static void copySources() throws IOException {
        for (String directory : new String[] {"src/main/java", "src/test/java"}) {
            Files.createDirectories(place.resolve(directory));
            try (Stream<Path> files = Files.list(Path.of(directory))) {
                for (Path file : files.toList()) {
                    Files.copy(file, place.resolve(directory).resolve(file.getFileName()));
                }
            }
        }
    }

    private static String run(String commands) throws Exception {
        ProcessBuilder shell = new ProcessBuilder("bash", "-e", "-c", commands);
        // what the machine itself says of its settings goes to the other stream
        Process process = shell.directory(place.toFile()).redirectError(ProcessBuilder.Redirect.INHERIT).start();
        String printed = new String(process.getInputStream().readAllBytes());
        Check.due("exit code of " + commands, process.waitFor(), 0);
        return printed;
    }

    private static void removeAll() throws IOException {
        try (Stream<Path> files = Files.walk(place)) {
            for (Path file : files.sorted(Comparator.reverseOrder()).toList()) {
                Files.delete(file);
            }
        }
    }

    /** Each call stands in a table once, with its exceptions in their order, and with a star if it is undoable. */
    private static void checkCalls(String readme) throws Exception {
        Set<String> told = new TreeSet<>();
        Set<String> starred = new TreeSet<>();
        int rows = 0;
        Matcher row = Pattern.compile("(?m)^\\| `(\\w+ (\\w+))\\((.*)\\)`( \\*)? \\| .* \\| (.*) \\|$").matcher(readme);
        while (row.find()) {
            rows++;
            String line = row.group(1) + row.group(3).replaceAll("(\\w+) \\w+(, )?", " $1");
            Matcher exception = Pattern.compile("(?:^|; )(Argument|State|Index): ").matcher(row.group(5));
            while (exception.find()) {
                line += " " + exceptionOf(exception.group(1));
            }
            told.add(line);
            if (row.group(4) != null) {
                starred.add(row.group(2));
            }
        }
        Check.due("rows of calls", rows, 62);
        Check.due("the calls of the tables", told, FaceTest.methodsOfDocument());
        Check.due("the calls with a star", starred, undoable());
    }

    private static String exceptionOf(String name) {
        switch (name) {
            case "Argument":
                return "IllegalArgumentException";
            case "State":
                return "IllegalStateException";
            default:
                return "IndexOutOfBoundsException";
        }
    }

    private static Set<String> undoable() throws IOException {
        String document = Files.readString(Path.of("../shared/DOC.md"));
        Set<String> found = new TreeSet<>();
        Matcher promise = Pattern.compile("(?m)^`\\w+ (\\w+)\\(.*Undoable.*$").matcher(document);
        while (promise.find()) {
            found.add(promise.group(1));
        }
        return found;
    }

    /** Each test and each part of BoundsTest stands in a table. */
    private static void checkTests(String readme) throws IOException {
        Set<String> named = new TreeSet<>();
        Matcher row = Pattern.compile("(?m)^\\| `(\\w+(?:Test|Bounds))` \\|").matcher(readme);
        while (row.find()) {
            named.add(row.group(1));
        }
        Set<String> there = new TreeSet<>();
        try (Stream<Path> files = Files.list(Path.of("src/test/java"))) {
            for (Path file : files.toList()) {
                String name = file.getFileName().toString().replace(".java", "");
                if (name.endsWith("Test") || name.endsWith("Bounds")) {
                    there.add(name);
                }
            }
        }
        Check.due("the tests of the tables", named, there);
    }
}
