import java.nio.charset.StandardCharsets;
import java.util.Objects;

/** A mill with handy calls for tests, and the count of answers that were not as due. */
final class Bench {
    interface Call {
        Object answer();
    }

    static int wrong;

    final RosettaMill mill = new RosettaMill();

    static void due(String what, Object got, Object due) {
        if (!Objects.equals(got, due)) {
            wrong++;
            System.out.println(what + " answered " + got + ", due is " + due);
        }
    }

    static void fails(String what, Class<? extends RuntimeException> due, Call call) {
        try {
            Object answer = call.answer();
            wrong++;
            System.out.println(what + " answered " + answer + ", due is " + due.getSimpleName());
        } catch (RuntimeException e) {
            due(what + " threw", e.getClass(), due);
        }
    }

    static void end(String name) {
        System.out.println(name + ": " + (wrong == 0 ? "all answers are as due" : wrong + " answers are not as due"));
        if (wrong != 0) {
            System.exit(1);
        }
    }

    void lay(int tape, String text) {
        byte[] bytes = text.getBytes(StandardCharsets.ISO_8859_1);
        mill.clear(tape);
        for (int i = 0; i < bytes.length; i += 4) {
            int many = Math.min(4, bytes.length - i);
            int typed = 0;
            for (int j = 0; j < many; j++) {
                typed = typed << 8 | bytes[i + j] & 255;
            }
            mill.type(tape, typed, many);
        }
    }

    String tape(int tape) {
        StringBuilder text = new StringBuilder();
        for (int i = 0; i < mill.length(tape); i++) {
            text.append((char) mill.byteAt(tape, i));
        }
        return text.toString();
    }

    /** Reads a text by way of tape 3. */
    int read(String text, char dialect, int document) {
        lay(3, text);
        return mill.read(3, dialect, document);
    }

    /** Reads a text that can be longer than a tape, by way of tape 3. */
    int readLong(String text, char dialect, int document) {
        mill.begin(dialect);
        for (int i = 0; i < text.length(); i += 240) {
            lay(3, text.substring(i, Math.min(text.length(), i + 240)));
            mill.piece(3);
        }
        return mill.finish(document);
    }

    /** Writes a document by way of tape 3. */
    String write(int document, char dialect) {
        mill.write(document, dialect, 3);
        return tape(3);
    }

    int select(int document, String path) {
        lay(3, path);
        return mill.select(document, 3);
    }

    int replace(int document, String path, int by) {
        lay(3, path);
        return mill.replace(document, 3, by);
    }

    int remove(int document, String path) {
        lay(3, path);
        return mill.remove(document, 3);
    }

    int put(int document, String path, String key, int by) {
        lay(3, path);
        lay(2, key);
        return mill.put(document, 3, 2, by);
    }

    int change(int document, String path, char op, int number) {
        lay(3, path);
        return mill.change(document, 3, op, number);
    }
}
