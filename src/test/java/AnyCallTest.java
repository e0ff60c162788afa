import java.util.Random;

/**
 * Long runs of calls drawn at random, with a fixed seed: no call throws what it should not, and a
 * second object that is spared all calls that were refused answers as the first one does.
 */
public final class AnyCallTest {
    private static final int RUNS = 3000;
    private static final int CALLS = 512;
    private static final int THROWN = Integer.MIN_VALUE;
    // Octets are given more often than all else: frames want several.
    private static final int[] LATER = {
        0, 1, 2, 3, 3, 3, 4, 5, 5, 6, 6, 6, 6, 6, 6, 6, 6, 6, 6, 6, 6, 6, 7, 7, 8, 8, 9, 10, 11, 11, 12, 12};
    private static final byte[] OCTETS = {1, 2, 3, 6, 6, (byte) 176, (byte) 176, -1, 0};
    // For each kind of call the ends of its arguments' ranges, as most calls have them.
    private static final int[][] SENSIBLE = {
        {1, 40, 0, 0, 0, 0}, {0, 30, -2, 4, 1, 3}, {1, 10, 50, 140, 0, 0}, {0, 9, 0, 0, 0, 0},
        {0, 63, 0, 0, 0, 0}, {1, 10, 0, 0, 0, 0}, {0, 6, 1, 10, 0, 0}, {1, 10, 0, 3, 0, 0},
        {0, 8, 0, 0, 0, 0}, {0, 0, 0, 0, 0, 0}, {1, 8, -160, 160, 0, 0}, {0, 20, 0, 3, 0, 0},
        {1, 10, 0, 2, 0, 0}};

    public static void main(String[] args) {
        Random random = new Random(60617);
        for (int run = 0; run < RUNS; run++) {
            LinRows all = new LinRows();
            LinRows spared = new LinRows();
            for (int c = 0; c < CALLS; c++) {
                int[] call = drawn(random, c);
                int answer = made(all, call);
                boolean refused = answer < 0 && call[0] != 12;
                if (!refused) {
                    Check.due("run " + run + ", call " + c + ", kind " + call[0], answer, made(spared, call));
                }
            }
        }
        Check.end();
    }

    private static int[] drawn(Random r, int c) {
        // The first calls build, so that the later ones have something to work on.
        int kind = c < 8 ? 0 : c < 20 ? 1 : c < 30 ? 2 : LATER[r.nextInt(LATER.length)];
        int[] call = {kind, wild(r), wild(r), wild(r), r.nextInt()};
        for (int k = 0; k < 3; k++) {
            int low = SENSIBLE[kind][2 * k];
            int high = SENSIBLE[kind][2 * k + 1];
            if (r.nextInt(40) != 0) {
                call[1 + k] = low + r.nextInt(high - low + 1);
            }
        }
        if (kind == 1 && r.nextInt(4) == 0) {
            call[1] = 60 + r.nextInt(2);
            call[2] = call[1] == 60 ? 0 : -1;
            call[3] = 8;
        }
        return call;
    }

    private static int wild(Random r) {
        switch (r.nextInt(4)) {
            case 0:
                return r.nextInt();
            case 1:
                return r.nextBoolean() ? Integer.MIN_VALUE : Integer.MAX_VALUE;
            case 2:
                return r.nextInt(1100);
            default:
                return r.nextInt(80) - 8;
        }
    }

    private static int made(LinRows x, int[] c) {
        switch (c[0]) {
            case 0: return x.slave(c[1]);
            case 1: return x.frame(c[1], c[2], c[3], (c[4] & 1) != 0);
            case 2: return x.slot(c[1], c[2]);
            case 3: return x.run(c[1]);
            case 4: return x.parity(c[1]);
            case 5: return x.sum(c[1]);
            // Few octets that differ, so that senders now agree and now collide, and addresses are met.
            case 6: return x.answer(c[1], c[2], OCTETS[(c[4] >>> 1) % OCTETS.length]);
            case 7: return x.collision(c[1], c[2]);
            case 8: return x.wake(c[1]);
            case 9: return (c[4] & 7) == 0 ? x.sleep() : 0;
            case 10: return x.rate(c[1], c[2]);
            case 11: return x.error(c[1], c[2]);
            default: return octetAt(x, c[1], c[2]);
        }
    }

    private static int octetAt(LinRows x, int frame, int i) {
        try {
            return x.at(frame, i);
        } catch (ArrayIndexOutOfBoundsException e) {
            return THROWN;
        }
    }
}
