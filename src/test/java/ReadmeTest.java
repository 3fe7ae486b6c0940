import java.io.IOException;
import java.nio.charset.StandardCharsets;
import java.nio.file.Files;
import java.nio.file.Path;
import java.util.ArrayList;
import java.util.Comparator;
import java.util.List;
import java.util.regex.Matcher;
import java.util.regex.Pattern;
import java.util.stream.Collectors;
import java.util.stream.Stream;

/**
 * Each program that README.md shows is compiled and run by the commands that it shows, in a place that holds the class
 * and the program alone; it has to print what stands behind it.
 */
public final class ReadmeTest {
    private static final Pattern BLOCK = Pattern.compile("^```(\\w+)\n(.*?)^```$", Pattern.DOTALL | Pattern.MULTILINE);
    private static final Pattern NAME = Pattern.compile("public class (\\w+)");
    private static final Pattern CALL = Pattern.compile("    public \\w+ (\\w+)\\(");
    private static final Path CLASS = Path.of("src/main/java/Rewritehall.java");
    /** The example for which README.md shows the commands. */
    private static final String SHOWN = "Groups";

    private ReadmeTest() {
    }

    private static final class Block {
        final String kind;
        final String text;

        Block(String kind, String text) {
            this.kind = kind;
            this.text = text;
        }
    }

    public static void main(String[] args) throws IOException, InterruptedException {
        String page = Files.readString(Path.of("README.md"));
        List<Block> blocks = new ArrayList<>();
        Matcher m = BLOCK.matcher(page);
        while (m.find()) {
            blocks.add(new Block(m.group(1), m.group(2)));
        }
        int programs = 0;
        for (int k = 0; k + 1 < blocks.size(); k++) {
            if (blocks.get(k).kind.equals("java")) {
                Asked.due("what stands behind the program " + programs, blocks.get(k + 1).kind, "text");
                answers(commandsOf(blocks), blocks.get(k).text, blocks.get(k + 1).text);
                programs++;
            }
        }
        Asked.due("the programs", programs, 3);
        Asked.due("the last block tells how to run the tests", blocks.get(blocks.size() - 1).text, ".ci/run\n");
        eachCallStands(page);
        Asked.finish("ReadmeTest");
    }

    private static String commandsOf(List<Block> blocks) {
        for (Block block : blocks) {
            if (block.kind.equals("sh") && block.text.contains("javac")) {
                return block.text;
            }
        }
        return "exit 1";
    }

    private static void answers(String commands, String program, String due) throws IOException, InterruptedException {
        Matcher m = NAME.matcher(program);
        String name = m.find() ? m.group(1) : "";
        Asked.due("the commands name " + SHOWN, commands.contains(SHOWN + ".java"), true);
        Path place = Files.createTempDirectory("readme");
        try {
            Files.createDirectories(place.resolve(CLASS).getParent());
            Files.copy(CLASS, place.resolve(CLASS));
            Files.writeString(place.resolve(name + ".java"), program);
            Process run = new ProcessBuilder("sh", "-e", "-c", commands.replace(SHOWN, name))
                .directory(place.toFile()).redirectError(ProcessBuilder.Redirect.INHERIT).start();
            run.getOutputStream().close();
            String printed = new String(run.getInputStream().readAllBytes(), StandardCharsets.UTF_8);
            Asked.due(name + " ends", run.waitFor(), 0);
            Asked.due(name + " prints", printed, due);
        } finally {
            try (Stream<Path> files = Files.walk(place)) {
                for (Path file : files.sorted(Comparator.reverseOrder()).collect(Collectors.toList())) {
                    Files.delete(file);
                }
            }
        }
    }

    /** The page names every call of the class. */
    private static void eachCallStands(String page) throws IOException {
        Matcher m = CALL.matcher(Files.readString(CLASS));
        int calls = 0;
        while (m.find()) {
            Asked.due("the page names " + m.group(1), page.contains("`" + m.group(1) + "`"), true);
            calls++;
        }
        Asked.due("the calls", calls, 45);
    }
}
