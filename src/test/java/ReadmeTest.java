import java.io.IOException;
import java.nio.charset.StandardCharsets;
import java.nio.file.DirectoryStream;
import java.nio.file.Files;
import java.nio.file.Path;
import java.util.Comparator;
import java.util.List;
import java.util.regex.Matcher;
import java.util.regex.Pattern;
import java.util.stream.Collectors;
import java.util.stream.Stream;

/** What README.md says: its example, tried as it stands in a new folder, and the tests that it lists. */
public final class ReadmeTest {
    private static final Path PROGRAM = Path.of(System.getProperty("program")).toAbsolutePath().normalize();
    private static final Path FROM_ROOT = Path.of("src", "main", "java", "KeyDistiller.java");
    private static final Path ROOT = PROGRAM.getParent().getParent().getParent().getParent();

    private static final Check CHECK = new Check();

    private ReadmeTest() {
    }

    public static void main(String[] args) throws IOException, InterruptedException {
        String readme = Files.readString(ROOT.resolve("README.md"));
        theExample(readme);
        theTests(readme);
        theScript(readme);
        CHECK.end();
    }

    /** The only part of README.md that is fenced as this kind. */
    private static String fenced(String readme, String kind) {
        Matcher parts = Pattern.compile("(?ms)^```" + kind + "\\n(.*?)^```$").matcher(readme);
        CHECK.holds("there is a part of " + kind, parts.find());
        String part = parts.group(1);
        CHECK.holds("there is just one part of " + kind, !parts.find());
        return part;
    }

    private static void theExample(String readme) throws IOException, InterruptedException {
        Path folder = Files.createTempDirectory("readme");
        try {
            Files.createDirectories(folder.resolve(FROM_ROOT).getParent());
            Files.copy(PROGRAM, folder.resolve(FROM_ROOT));
            Files.writeString(folder.resolve("Example.java"), fenced(readme, "java"));
            CHECK.due("the example prints", printed(folder, fenced(readme, "sh")), fenced(readme, "text"));
        } finally {
            remove(folder);
        }
    }

    private static String printed(Path folder, String commands) throws IOException, InterruptedException {
        Process shell = new ProcessBuilder("sh", "-e", "-c", commands).directory(folder.toFile())
            .redirectError(ProcessBuilder.Redirect.INHERIT).start();
        shell.getOutputStream().close();
        String text = new String(shell.getInputStream().readAllBytes(), StandardCharsets.UTF_8);
        CHECK.due("the commands' exit code", Integer.toString(shell.waitFor()), "0");
        return text;
    }

    private static void remove(Path folder) throws IOException {
        try (Stream<Path> all = Files.walk(folder)) {
            for (Path each : all.sorted(Comparator.reverseOrder()).collect(Collectors.toList())) {
                Files.delete(each);
            }
        }
    }

    private static void theTests(String readme) throws IOException {
        String list = readme.substring(readme.indexOf("## How to run its tests"));
        try (DirectoryStream<Path> all = Files.newDirectoryStream(ROOT.resolve(Path.of("src", "test", "java")))) {
            for (Path each : all) {
                String name = each.getFileName().toString().replace(".java", "");
                CHECK.holds("it tells of " + name, list.contains("`" + name + "`"));
            }
        }
        Matcher names = Pattern.compile("`(\\w+Test)`").matcher(list);
        while (names.find()) {
            Path test = ROOT.resolve(Path.of("src", "test", "java", names.group(1) + ".java"));
            CHECK.holds("there is a test " + names.group(1), Files.exists(test));
        }
    }

    private static void theScript(String readme) {
        CHECK.holds("it tells how to run the tests", List.of(readme.split("\n")).contains("    .ci/run"));
        CHECK.holds(".ci/run can be run", Files.isExecutable(ROOT.resolve(Path.of(".ci", "run"))));
    }
}
