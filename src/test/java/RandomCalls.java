import java.util.Random;

/** Random programs and numbers for the tests that make random runs; the seed settles them. */
final class RandomCalls {
    private static final int[] OPS = {
        0, 0, 0, 1, 1, 2, 3, 4, 4, 5, 5, 5, 5, 5, 6, 6, 7, 7, 7, 8, 8, 8, 9, 10};
    private final Random random;

    RandomCalls(long seed) {
        random = new Random(seed);
    }

    int below(int n) {
        return random.nextInt(n);
    }

    boolean once(int n) {
        return random.nextInt(n) == 0;
    }

    int value() {
        return once(20) ? random.nextInt() : random.nextInt(7) - 2;
    }

    /** A number below n, or now and then one that is not as said. */
    int number(int n) {
        return once(40) ? (once(2) ? -1 - random.nextInt(3) : n + random.nextInt(3)) : random.nextInt(n);
    }

    /** An instruction (op, a, b); nearly all are as said. */
    int[] instruction() {
        int op = once(60) ? random.nextInt(14) - 1 : OPS[random.nextInt(OPS.length)];
        int a = op == 3 ? place() : number(4);
        int b = op == 0 ? value() : op == 4 ? place() : number(4);
        return new int[] {op, a, b};
    }

    private int place() {
        return once(3) ? number(15) : random.nextInt(6);
    }
}
