/** Numbers that look thrown, the same ones in each run. */
final class Dice {
    private long state;

    Dice(long seed) {
        state = seed * 2862933555777941757L + 3037000493L;
    }

    /** A number from 0 up to sides, not sides. */
    int roll(int sides) {
        state = state * 6364136223846793005L + 1442695040888963407L;
        return (int) ((state >>> 33) % sides);
    }

    boolean one(int sides) {
        return roll(sides) == 0;
    }
}
