import java.io.IOException;
import java.nio.file.Files;
import java.nio.file.Path;
import java.util.ArrayList;
import java.util.List;
import java.util.stream.Stream;

/** The files that tests look into. */
final class Pages {
    static final Path DOCUMENT = Path.of("../shared/DOC.md");
    static final Path SOURCE = Path.of("src/main/java/Formwheel.java");
    static final Path README = Path.of("README.md");
    static final Path TESTS = Path.of("src/test/java");

    private Pages() {
    }

    static List<String> linesOf(Path file) {
        try {
            return Files.readAllLines(file);
        } catch (IOException e) {
            throw new IllegalStateException("cannot read " + file, e);
        }
    }

    static List<String> namesIn(Path folder) {
        try (Stream<Path> files = Files.list(folder)) {
            return files.map(file -> file.getFileName().toString()).sorted().toList();
        } catch (IOException e) {
            throw new IllegalStateException("cannot read " + folder, e);
        }
    }

    /** What stands in the blocks of a page that begin with three strokes and this word. */
    static List<List<String>> blocksOf(Path file, String word) {
        List<List<String>> blocks = new ArrayList<>();
        List<String> block = null;
        boolean isInside = false;
        for (String line : linesOf(file)) {
            if (!line.startsWith("```")) {
                if (block != null) {
                    block.add(line);
                }
                continue;
            }
            isInside = !isInside;
            block = isInside && line.equals("```" + word) ? new ArrayList<>() : null;
            if (block != null) {
                blocks.add(block);
            }
        }
        return blocks;
    }
}
