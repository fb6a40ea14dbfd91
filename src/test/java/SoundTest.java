import java.lang.reflect.Array;
import java.lang.reflect.Field;

/**
 * No call makes a document that isSound() tells of, so what a document holds is spoilt here behind the mill's back, in
 * each of the eight documents.
 */
public final class SoundTest {
    private static final String TEXT = "{\"a\":5,\"b\":-7,\"c\":\"text\",\"d\":null,\"e\":0}";

    public static void main(String[] args) throws ReflectiveOperationException {
        for (int document = 0; document < 8; document++) {
            spoil(document, "numbers", 1, 1234567890);
            spoil(document, "numbers", 1, -1234567890);
            spoil(document, "behinds", 1, 5);
            spoil(document, "minuses", 1, true);
            // This is the same number, in a notation that is not there.
            spoil(document, "minuses", 2, true);
            spoil(document, "kinds", 4, '?');
            spoil(document, "levels", 3, 3);
            spoilBytes(document, "texts", 3, 7);
            spoilBytes(document, "texts", 3, 200);
            spoilBytes(document, "keys", 1, 127);
            // Two keys that are the same.
            spoilBytes(document, "keys", 2, 'a');
        }
        Bench.end("SoundTest");
    }

    private static Object part(Object whole, String name) throws ReflectiveOperationException {
        Field field = whole.getClass().getDeclaredField(name);
        field.setAccessible(true);
        return field.get(whole);
    }

    private static Bench bench() {
        Bench bench = new Bench();
        for (int i = 0; i < 8; i++) {
            bench.read(TEXT, 'b', i);
        }
        return bench;
    }

    private static void spoil(int document, String name, int place, Object value) throws ReflectiveOperationException {
        Bench bench = bench();
        Object row = part(Array.get(part(bench.mill, "documents"), document), name);
        spoilRow(bench, name, row, place, value);
    }

    // A row of bytes has 20 places for each text or key.
    private static void spoilBytes(int document, String name, int place, int value)
            throws ReflectiveOperationException {
        Bench bench = bench();
        Object row = part(part(Array.get(part(bench.mill, "documents"), document), name), "bytes");
        spoilRow(bench, name, row, 20 * place, value);
    }

    private static void spoilRow(Bench bench, String name, Object row, int place, Object value) {
        Object before = Array.get(row, place);
        Bench.due("isSound ahead", bench.mill.isSound(), true);
        Array.set(row, place, value);
        Bench.due("isSound with " + value + " in " + name, bench.mill.isSound(), false);
        Array.set(row, place, before);
        Bench.due("isSound behind", bench.mill.isSound(), true);
    }
}
