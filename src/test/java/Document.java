import java.io.IOException;
import java.io.UncheckedIOException;
import java.nio.file.Files;
import java.nio.file.Path;

/** The document, which the tests of its sentences quote. */
final class Document {
    private static final Path PLACE = Path.of("../shared/DOC.md");
    private static final String TEXT = read();

    private Document() {
    }

    private static String read() {
        if (!Files.exists(PLACE)) {
            System.out.println(PLACE + " is not here, so no quotation is compared with it");
            return "";
        }
        try {
            return Files.readString(PLACE).replaceAll("\\s*\n\\s*", "\n");
        } catch (IOException e) {
            throw new UncheckedIOException(e);
        }
    }

    /** Tells whether the words stand in the section of that title, for instance "Terms" or "Promise 3". */
    static boolean says(String section, String words) {
        return TEXT.isEmpty() || section(section).contains(words);
    }

    private static String section(String title) {
        for (String section : TEXT.split("(?m)^## ")) {
            String head = section.lines().findFirst().orElse("");
            if (head.equals(title) || head.startsWith(title + ":")) {
                return section;
            }
        }
        return "";
    }
}
