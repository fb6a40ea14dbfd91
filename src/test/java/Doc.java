import java.io.IOException;
import java.nio.file.Files;
import java.nio.file.Path;
import java.util.Arrays;

/**
 * The words of ../shared/DOC.md, by promise, with "Terms" as number 0. A test tells the words that it holds the class
 * against, and in the end no words are left that no test has told.
 */
final class Doc {
    private static final int PROMISES = 32;
    private static final String[] PARTS = parts();
    private static final StringBuilder[] UNTOLD = Arrays.stream(PARTS).map(StringBuilder::new)
        .toArray(StringBuilder[]::new);
    private static String told = "";

    private Doc() {
    }

    /** Names the words that the answers are held against from now on. */
    static void says(int promise, String words) {
        told = promise + " \"" + words + "\": ";
        int place = PARTS[promise].indexOf(words);
        if (place < 0) {
            Bench.due(told + "in the document", "no", "yes");
            return;
        }
        for (int i = place; i < place + words.length(); i++) {
            UNTOLD[promise].setCharAt(i, ' ');
        }
    }

    static String told() {
        return told;
    }

    /** All words of the document have been told by a test. */
    static void allTold() {
        for (int i = 0; i <= PROMISES; i++) {
            Bench.due("words of " + i + " without a test", UNTOLD[i].toString().replaceAll("\\s+", " ").trim(), "");
        }
    }

    private static String[] parts() {
        String[] parts = new String[PROMISES + 1];
        Arrays.fill(parts, "");
        String[] sections = text().split("\n## ");
        for (String section : sections) {
            String title = section.substring(0, section.indexOf('\n'));
            String body = section.substring(title.length()).replaceAll("\\s+", " ");
            if (title.equals("Terms")) {
                // Behind this it tells only which calls stand together.
                parts[0] = body.substring(0, body.indexOf("Ahead of the calls"));
            } else if (title.startsWith("Promise ")) {
                // The line of the face is held by FaceTest.
                parts[Integer.parseInt(title.split("[ :]")[1])] = body.substring(body.indexOf("`: ") + 3);
            }
        }
        return parts;
    }

    private static String text() {
        try {
            return Files.readString(Path.of("../shared/DOC.md")).replaceAll("\n## Not promised[\\s\\S]*", "");
        } catch (IOException e) {
            throw new IllegalStateException(e);
        }
    }
}
