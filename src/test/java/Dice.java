/** Numbers that look thrown but are the same in every run. */
final class Dice {
    private long state;

    Dice(long seed) {
        state = seed * 0x9E3779B97F4A7C15L + 0x1234567L;
    }

    int below(int bound) {
        state = state * 6364136223846793005L + 1442695040888963407L;
        long mixed = (state >>> 33) ^ (state >>> 13);
        return bound <= 0 ? 0 : (int) Math.floorMod(mixed, (long) bound);
    }

    boolean oneIn(int many) {
        return below(many) == 0;
    }
}
