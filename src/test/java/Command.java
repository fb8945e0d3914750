import java.io.IOException;
import java.nio.charset.StandardCharsets;
import java.nio.file.Files;
import java.nio.file.Path;
import java.util.ArrayList;
import java.util.Collections;
import java.util.List;
import java.util.stream.Stream;

/** Runs javac and java for tests of sources that they write themselves. */
final class Command {
    private Command() {
    }

    /** What the command writes; that it ends with exit code 0 is checked. */
    static String outputOf(String... command) throws IOException, InterruptedException {
        Process process = new ProcessBuilder(command).redirectErrorStream(true).start();
        String output = new String(process.getInputStream().readAllBytes(), StandardCharsets.UTF_8);
        int exitCode = process.waitFor();
        Check.due(String.join(" ", command) + "\n" + output + "exit code", 0, exitCode);
        return output;
    }

    static String compile(Path folder, List<Path> sources) throws IOException, InterruptedException {
        List<String> command = new ArrayList<>(List.of("javac", "-d", folder.toString()));
        sources.forEach(source -> command.add(source.toString()));
        return outputOf(command.toArray(new String[0]));
    }

    static String run(Path folder, String mainClass) throws IOException, InterruptedException {
        return outputOf("java", "-cp", folder.toString(), mainClass);
    }

    static void delete(Path folder) throws IOException {
        try (Stream<Path> paths = Files.walk(folder)) {
            List<Path> found = new ArrayList<>(paths.toList());
            Collections.reverse(found);
            for (Path path : found) {
                Files.delete(path);
            }
        }
    }
}
