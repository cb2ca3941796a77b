import java.io.IOException;
import java.nio.file.Files;
import java.nio.file.Path;
import java.util.ArrayList;
import java.util.List;

/** The document in the parts that tests name: each line of its terms, each of its promises. */
final class Document {
    private static final Path PLACE = Path.of("../shared/DOC.md");

    private final List<String> heads = new ArrayList<>();
    private final List<String> texts = new ArrayList<>();
    private final List<Boolean> named = new ArrayList<>();

    Document() {
        // without the document its words can't be compared, but the answers still can
        if (Files.isReadable(PLACE)) {
            read();
        }
    }

    private void read() {
        String head = "";
        for (String line : lines()) {
            if (line.startsWith("#")) {
                head = line.replaceAll("^#+ ", "").replaceAll(":.*", "");
            } else if (tellsSomething(head, line)) {
                heads.add(head);
                texts.add(line.trim());
                named.add(false);
            }
        }
    }

    private static List<String> lines() {
        try {
            return Files.readAllLines(PLACE);
        } catch (IOException e) {
            return List.of();
        }
    }

    private static boolean tellsSomething(String head, String line) {
        if (line.isBlank() || line.startsWith("```") || line.startsWith("Ahead of the calls")) {
            return false;
        }
        return head.equals("Terms") || head.startsWith("Promise ") || head.equals("What it is") && line.contains("====");
    }

    boolean isThere() {
        return !texts.isEmpty();
    }

    boolean name(String head, String quote) {
        boolean isFound = !isThere();
        for (int k = 0; k < texts.size(); k++) {
            if (heads.get(k).equals(head) && texts.get(k).contains(quote)) {
                named.set(k, true);
                isFound = true;
            }
        }
        return isFound;
    }

    List<String> notNamed() {
        List<String> left = new ArrayList<>();
        for (int k = 0; k < texts.size(); k++) {
            if (!named.get(k)) {
                left.add(heads.get(k) + ": " + texts.get(k));
            }
        }
        return left;
    }
}
