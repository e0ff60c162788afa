import java.util.Random;

/**
 * Long runs of calls drawn at random, with a fixed seed: no call throws what it should not, and a
 * second object that is spared all calls that were refused answers as the first one does.
 */
public final class AnyCallTest {
    private static final int RUNS = 3000;
    private static final int CALLS = 512;
    private static final int THROWN = Integer.MIN_VALUE;

    public static void main(String[] args) {
        Random random = new Random(60617);
        for (int run = 0; run < RUNS; run++) {
            LinRows all = new LinRows();
            LinRows spared = new LinRows();
            for (int c = 0; c < CALLS; c++) {
                int[] call = drawn(random, c);
                int answer = made(all, call);
                boolean refused = answer < 0 && call[0] != 12;
                if (!refused) {
                    Check.due("run " + run + ", call " + c + ", kind " + call[0], answer, made(spared, call));
                }
            }
        }
        Check.end();
    }

    private static int[] drawn(Random r, int c) {
        // Most runs first build, so that their later calls have something to work on.
        int kind = c < 40 ? r.nextInt(3) : r.nextInt(13);
        return new int[] {kind, number(r), number(r), number(r), r.nextInt()};
    }

    private static int number(Random r) {
        switch (r.nextInt(12)) {
            case 0:
                return r.nextInt();
            case 1:
                return r.nextBoolean() ? Integer.MIN_VALUE : Integer.MAX_VALUE;
            case 2:
                return r.nextInt(1100);
            case 3:
            case 4:
                return r.nextInt(130);
            case 5:
                return 58 + r.nextInt(6);
            default:
                return r.nextInt(12) - 2;
        }
    }

    private static int made(LinRows x, int[] c) {
        switch (c[0]) {
            case 0: return x.slave(c[1]);
            case 1: return x.frame(c[1], c[2], c[1] == 60 || c[1] == 61 ? 8 : c[3], (c[4] & 1) != 0);
            case 2: return x.slot(c[1], c[2]);
            case 3: return x.run(c[1]);
            case 4: return x.parity(c[1]);
            case 5: return x.sum(c[1]);
            case 6: return x.answer(c[1], c[2], (byte) c[4]);
            case 7: return x.collision(c[1], c[2]);
            case 8: return x.wake(c[1]);
            case 9: return (c[4] & 7) == 0 ? x.sleep() : 0;
            case 10: return x.rate(c[1], c[2]);
            case 11: return x.error(c[1], c[2]);
            default: return octetAt(x, c[1], c[2]);
        }
    }

    private static int octetAt(LinRows x, int frame, int i) {
        try {
            return x.at(frame, i);
        } catch (ArrayIndexOutOfBoundsException e) {
            return THROWN;
        }
    }
}
