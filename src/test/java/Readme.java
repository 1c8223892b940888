import java.io.IOException;
import java.nio.file.Files;
import java.nio.file.Path;
import java.util.ArrayList;
import java.util.List;

/** What stands in README.md in blocks of code. */
final class Readme {
    private Readme() {
    }

    static List<List<String>> blocks(String language) throws IOException {
        List<List<String>> blocks = new ArrayList<>();
        List<String> open = null;
        for (String line : Files.readAllLines(Path.of("README.md"))) {
            if (open != null && line.equals("```")) {
                blocks.add(open);
                open = null;
            } else if (open != null) {
                open.add(line);
            } else if (line.equals("```" + language)) {
                open = new ArrayList<>();
            }
        }
        return blocks;
    }
}
