/** A plain row of numbers, the same for the same seed, so that a fault can be seen again. */
final class Numbers {
    private long seed;

    Numbers(int seed) {
        this.seed = seed;
    }

    int below(int bound) {
        seed = seed * 6364136223846793005L + 1442695040888963407L;
        return (int) ((seed >>> 33) % bound);
    }
}
