/** Numbers that look like chance, the same each time. */
final class Chance {
    private long state;

    Chance(long seed) {
        state = seed;
    }

    int below(int bound) {
        state = state * 6364136223846793005L + 1442695040888963407L;
        return (int) ((state >>> 33) % bound);
    }

    boolean once(int in) {
        return below(in) == 0;
    }

    <T> T of(T[] all) {
        return all[below(all.length)];
    }
}
