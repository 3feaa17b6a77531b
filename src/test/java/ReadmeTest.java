import java.io.IOException;
import java.nio.file.Files;
import java.nio.file.Path;
import java.util.List;

/** Runs the examples of README.md, so that it tells no wrong ones. */
public final class ReadmeTest extends Checks {
    public static void main(String[] args) throws IOException {
        List<String> lines = Files.readAllLines(Path.of("README.md"));
        statements(lines);
        faults(lines);
        packing();
        end("the examples of README.md hold");
    }

    private static List<String> block(List<String> lines, String name) {
        int start = lines.indexOf("```" + name) + 1;
        int many = lines.subList(start, lines.size()).indexOf("```");
        due("README.md has examples as " + name, start > 0 && many > 0, true);
        return lines.subList(start, start + many);
    }

    private static void statements(List<String> lines) {
        RankCalc x = new RankCalc();
        for (String line : block(lines, "statements")) {
            String[] parts = line.split(" +=> +");
            outcome(x, parts[0]);
            due(parts[0], show(x), parts[1]);
        }
    }

    private static void faults(List<String> lines) {
        for (String line : block(lines, "faults")) {
            String[] parts = line.split(" +=> +");
            String thrown = "nothing";
            RankCalc x = new RankCalc();
            write(x, parts[0]);
            try {
                x.run();
            } catch (RuntimeException e) {
                thrown = e.getClass().getSimpleName();
            }
            due(parts[0] + " throws", thrown, parts[1].split(" ")[0]);
        }
    }

    private static void packing() {
        RankCalc x = new RankCalc();
        x.feed('+' | '/' << 8 | '1' << 16 | ' ' << 24);
        x.feed('2' | ' ' << 8 | '3' << 16);
        due("+/1 2 3", x.run() + " " + x.element(0), "1 6");
        x.clear();
        due("after clear", x.run(), -1);
    }
}
