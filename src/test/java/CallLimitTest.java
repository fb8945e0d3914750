import java.io.IOException;
import java.lang.reflect.Modifier;
import java.nio.file.Files;
import java.nio.file.Path;
import java.util.Arrays;
import java.util.List;
import java.util.regex.Pattern;
import java.util.stream.Stream;

/**
 * No test asks more of an object than the 512 calls that the document promises: the other tests are run with a copy of
 * the class that counts them.
 */
public final class CallLimitTest {
    private static final Pattern METHOD = Pattern.compile("(?m)^    public (?!DropMarket\\()[^;{]*\\{$");
    private static final String CLASS = "public final class DropMarket {";
    private static final String COUNTING = CLASS + """

                private int calls = 0;

                private void countCall() {
                    calls++;
                    if (calls > 512) {
                        throw new AssertionError("call " + calls + " of one object");
                    }
                }
            """;
    private static final List<String> WITH_PROGRAMS_OF_THEIR_OWN = List.of("CallLimitTest", "ReadmeTest");

    public static void main(String[] args) throws IOException, InterruptedException {
        Path folder = Files.createTempDirectory("calls");
        try {
            Path program = Files.writeString(folder.resolve("DropMarket.java"), countingProgram());
            List<Path> sources = testSources();
            Command.compile(folder, Stream.concat(Stream.of(program), sources.stream()).toList());
            for (Path source : sources) {
                String name = source.getFileName().toString().replace(".java", "");
                if (name.endsWith("Test") && !WITH_PROGRAMS_OF_THEIR_OWN.contains(name)) {
                    Command.run(folder, name);
                }
            }
        } finally {
            Command.delete(folder);
        }
        Check.end("CallLimitTest");
    }

    private static String countingProgram() throws IOException {
        String program = Files.readString(Path.of("src/main/java/DropMarket.java"));
        Check.due("methods that are counted", publicMethods(), METHOD.matcher(program).results().count());
        return METHOD.matcher(program).replaceAll("$0 countCall();").replace(CLASS, COUNTING);
    }

    private static long publicMethods() {
        return Arrays.stream(DropMarket.class.getDeclaredMethods())
                .filter(method -> Modifier.isPublic(method.getModifiers())).count();
    }

    private static List<Path> testSources() throws IOException {
        try (Stream<Path> sources = Files.list(Path.of("src/test/java"))) {
            return sources.filter(source -> source.toString().endsWith(".java")).sorted().toList();
        }
    }
}
