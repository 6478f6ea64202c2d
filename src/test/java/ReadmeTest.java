import java.io.IOException;
import java.lang.reflect.Method;
import java.lang.reflect.Modifier;
import java.nio.charset.StandardCharsets;
import java.nio.file.DirectoryStream;
import java.nio.file.Files;
import java.nio.file.Path;
import java.util.ArrayList;
import java.util.Comparator;
import java.util.List;
import java.util.regex.Matcher;
import java.util.regex.Pattern;
import java.util.stream.Stream;

/** README.md: its example, made and run by its own commands, answers as it says; and it tells every call and test. */
public final class ReadmeTest {
    private static final String AGENT = "src/main/java/TreeAgent.java";

    public static void main(String[] args) throws IOException, InterruptedException {
        String readme = Files.readString(Path.of("README.md"));
        example(readme);
        callsAreTold(readme);
        testsAreTold(readme);
        Check.finish();
    }

    /** What stands between the fences of the blocks of a kind. */
    private static List<String> blocks(String readme, String kind) {
        List<String> all = new ArrayList<>();
        Matcher fences = Pattern.compile("(?ms)^```(\\w+)\\R(.*?)^```$").matcher(readme);
        while (fences.find()) {
            if (fences.group(1).equals(kind)) {
                all.add(fences.group(2));
            }
        }
        return all;
    }

    private static String only(String readme, String kind) {
        List<String> all = blocks(readme, kind);
        Check.due("blocks of " + kind, all.size(), 1);
        return all.isEmpty() ? "" : all.get(0);
    }

    private static String commandsWith(String readme, String words) {
        for (String commands : blocks(readme, "sh")) {
            if (commands.contains(words)) {
                return commands;
            }
        }
        Check.isTrue("there are commands with " + words, false);
        return "";
    }

    private static void example(String readme) throws IOException, InterruptedException {
        Path place = Files.createTempDirectory("readme");
        Files.createDirectories(place.resolve("src/main/java"));
        Files.copy(Path.of(AGENT), place.resolve(AGENT));
        run(place, commandsWith(readme, "-d out " + AGENT));
        Check.isTrue("the agent's class is made", Files.exists(place.resolve("out/TreeAgent.class")));
        Files.createDirectories(place.resolve("out"));
        Files.writeString(place.resolve("out/Example.java"), only(readme, "java"));
        Check.due("the example", run(place, commandsWith(readme, "java -cp out Example")), only(readme, "text"));
        takeAway(place);
    }

    private static String run(Path place, String commands) throws IOException, InterruptedException {
        Process shell = new ProcessBuilder("sh", "-e", "-c", commands).directory(place.toFile())
                .redirectError(ProcessBuilder.Redirect.INHERIT).start();
        shell.getOutputStream().close();
        String told = new String(shell.getInputStream().readAllBytes(), StandardCharsets.UTF_8);
        Check.due("the exit code of " + commands.trim(), shell.waitFor(), 0);
        return told.replace("\r\n", "\n");
    }

    private static void takeAway(Path place) throws IOException {
        try (Stream<Path> all = Files.walk(place)) {
            for (Path one : all.sorted(Comparator.reverseOrder()).toList()) {
                Files.delete(one);
            }
        }
    }

    private static void callsAreTold(String readme) {
        for (Method method : TreeAgent.class.getDeclaredMethods()) {
            boolean told = Pattern.compile("`" + method.getName() + "[(`]").matcher(readme).find();
            Check.isTrue(method.getName() + " is not told", told || !Modifier.isPublic(method.getModifiers()));
        }
    }

    private static void testsAreTold(String readme) throws IOException {
        try (DirectoryStream<Path> tests = Files.newDirectoryStream(Path.of("src/test/java"), "*.java")) {
            for (Path test : tests) {
                String name = test.getFileName().toString().replace(".java", "");
                Check.isTrue(name + " is not told", readme.contains("`" + name + "`"));
            }
        }
    }
}
