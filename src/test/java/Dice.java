/** Numbers that look chosen at random and are the same each time. */
final class Dice {
    private long seed;

    Dice(long seed) {
        this.seed = seed * 0x9E3779B97F4A7C15L + 1;
    }

    int below(int bound) {
        seed = seed * 6364136223846793005L + 1442695040888963407L;
        return (int) ((seed >>> 33) % bound);
    }

    int from(int least, int greatest) {
        return least + below(greatest - least + 1);
    }

    boolean once(int in) {
        return below(in) == 0;
    }
}
