/**
 * Promise 7: "The sum of what a frame HELD last. -1 there is none, -3 it never HELD anything." and
 * the SUM of the terms: "whenever it is above 255, 255 is taken off; then 255 less that".
 */
public final class SumTest {
    public static void main(String[] args) {
        frameIsUnknown();
        neverHeld();
        nothingHeldByErrors();
        smallestTotal();
        totalOf255();
        totalAbove255();
        everyOctetTakesOff();
        enhancedUpTo255();
        enhancedAbove255();
        notEnhanced();
        everyLength();
        requestIsNeverEnhanced();
        answerIsNeverEnhanced();
        whatWasHeldLast();
        Check.end();
    }

    /** The sum that the terms ask for, told another way: what 255 leaves, but 255 for its multiples. */
    private static int sumByTerms(int... added) {
        int total = 0;
        for (int o : added) {
            total += o;
        }
        return total == 0 ? 255 : 255 - ((total - 1) % 255 + 1);
    }

    private static int sumOf(int identifier, boolean enhanced, int... octets) {
        LinRows x = new LinRows();
        x.frame(identifier, 0, octets.length, enhanced);
        x.slot(1, 200);
        Check.due("all given", 0, Check.give(x, 0, 1, octets));
        Check.due("not sent yet", -3, x.sum(1));
        Check.due("run(1)", 1, x.run(1));
        return x.sum(1);
    }

    private static void frameIsUnknown() {
        LinRows x = new LinRows();
        Check.due("no frames", -1, x.sum(1));
        x.frame(5, 0, 1, false);
        x.slot(1, 54);
        Check.give(x, 0, 1, 1);
        x.run(1);
        Check.due("sum(0)", -1, x.sum(0));
        Check.due("sum(2)", -1, x.sum(2));
        Check.due("sum(5): that is an identifier", -1, x.sum(5));
        Check.due("sum(-1)", -1, x.sum(-1));
        Check.due("sum(MIN)", -1, x.sum(Integer.MIN_VALUE));
        Check.due("sum(MAX)", -1, x.sum(Integer.MAX_VALUE));
        Check.due("sum(1)", 254, x.sum(1));
    }

    private static void neverHeld() {
        LinRows x = new LinRows();
        x.frame(5, 0, 1, false);
        x.slot(1, 54);
        Check.due("nothing given", -3, x.sum(1));
        x.run(1);
        Check.due("nobody sent", -3, x.sum(1));
        Check.give(x, 0, 1, 0);
        Check.due("given, not sent", -3, x.sum(1));
        Check.due("run(1)", 1, x.run(1));
        Check.due("0 is something", 255, x.sum(1));
    }

    private static void nothingHeldByErrors() {
        LinRows x = Check.withSlaves(2);
        x.frame(1, 1, 1, false);
        x.frame(2, 0, 1, false);
        x.frame(3, -1, 1, false);
        x.slot(1, 54);
        x.slot(2, 53);
        x.slot(3, 54);
        Check.give(x, 1, 1, 0x0F);
        Check.give(x, 2, 1, 0xF0);
        Check.give(x, 0, 2, 1);
        Check.give(x, 1, 3, 1);
        Check.give(x, 2, 3, 2);
        Check.due("run(3)", 0, x.run(3));
        Check.due("ERROR 2", 2, x.error(0, 0));
        Check.due("ERROR 3", 3, x.error(1, 0));
        Check.due("ERROR 4", 4, x.error(2, 0));
        for (int frame = 1; frame <= 3; frame++) {
            Check.due("sum(" + frame + ")", -3, x.sum(frame));
        }
    }

    private static void smallestTotal() {
        Check.due("0", 255, sumOf(5, false, 0));
        Check.due("0 eight times", 255, sumOf(5, false, 0, 0, 0, 0, 0, 0, 0, 0));
        Check.due("1", 254, sumOf(5, false, 1));
    }

    private static void totalOf255() {
        Check.due("255", 0, sumOf(5, false, 255));
        Check.due("254 and 1", 0, sumOf(5, false, 254, 1));
        Check.due("128 and 127: octets are 0 .. 255", 0, sumOf(5, false, 128, 127));
        Check.due("255 and 0", 0, sumOf(5, false, 255, 0));
    }

    private static void totalAbove255() {
        Check.due("256", 254, sumOf(5, false, 255, 1));
        Check.due("256", 254, sumOf(5, false, 128, 128));
        Check.due("509", 1, sumOf(5, false, 255, 254));
        Check.due("510", 0, sumOf(5, false, 255, 255));
        Check.due("511", 254, sumOf(5, false, 255, 255, 1));
    }

    private static void everyOctetTakesOff() {
        Check.due("255 eight times", 0, sumOf(5, false, 255, 255, 255, 255, 255, 255, 255, 255));
        Check.due("254 eight times", 8, sumOf(5, false, 254, 254, 254, 254, 254, 254, 254, 254));
        Check.due("the example of the LIN specification", 0xE6, sumOf(5, false, 0x4A, 0x55, 0x93, 0xE5));
    }

    private static void enhancedUpTo255() {
        // 59 is the identifier with the largest protected one that a frame can have: 0xFB.
        Check.due("0xFB and 0", 4, sumOf(59, true, 0));
        Check.due("0xFB and 4", 0, sumOf(59, true, 4));
        Check.due("0x80 and 0x7F", 0, sumOf(0, true, 0x7F));
    }

    private static void enhancedAbove255() {
        Check.due("0xFB and 5", 254, sumOf(59, true, 5));
        Check.due("0xFB and 255", 4, sumOf(59, true, 255));
        Check.due("0x80 and 0x80", 254, sumOf(0, true, 0x80));
        Check.due("0xFB and 255 eight times", 4, sumOf(59, true, 255, 255, 255, 255, 255, 255, 255, 255));
    }

    private static void notEnhanced() {
        Check.due("59", 255, sumOf(59, false, 0));
        Check.due("10", sumByTerms(0x55, 0x93, 0xE5), sumOf(10, false, 0x55, 0x93, 0xE5));
        Check.due("10, enhanced", sumByTerms(0xCA, 0x55, 0x93, 0xE5), sumOf(10, true, 0x55, 0x93, 0xE5));
    }

    private static void everyLength() {
        for (int length = 1; length <= 8; length++) {
            int[] octets = new int[length];
            int[] behindIdentifier = new int[length + 1];
            behindIdentifier[0] = 0xC1;
            for (int i = 0; i < length; i++) {
                octets[i] = 200 - 17 * i;
                behindIdentifier[i + 1] = octets[i];
            }
            Check.due("length " + length, sumByTerms(octets), sumOf(1, false, octets));
            Check.due("enhanced, length " + length, sumByTerms(behindIdentifier), sumOf(1, true, octets));
        }
    }

    private static void requestIsNeverEnhanced() {
        Check.due("60, as if enhanced", 255 - 36, sumOf(60, true, 1, 2, 3, 4, 5, 6, 7, 8));
        Check.due("60", 255 - 36, sumOf(60, false, 1, 2, 3, 4, 5, 6, 7, 8));
        Check.due("59 beside it", sumByTerms(0xFB, 36), sumOf(59, true, 1, 2, 3, 4, 5, 6, 7, 8));
    }

    private static void answerIsNeverEnhanced() {
        for (boolean enhanced : new boolean[] {true, false}) {
            LinRows x = Check.withSlaves(1);
            x.frame(60, 0, 8, enhanced);
            x.frame(61, -1, 8, enhanced);
            x.slot(1, 200);
            x.slot(2, 200);
            Check.give(x, 0, 1, 11, 0, 0, 0, 0, 0, 0, 0);
            Check.give(x, 1, 2, 1, 2, 3, 4, 5, 6, 7, 8);
            Check.due("run(2)", 2, x.run(2));
            Check.due("61", 255 - 36, x.sum(2));
        }
    }

    private static void whatWasHeldLast() {
        LinRows x = new LinRows();
        x.frame(5, 0, 1, false);
        x.slot(1, 54);
        x.slot(1, 53);
        Check.give(x, 0, 1, 1);
        Check.due("run(1)", 1, x.run(1));
        Check.give(x, 0, 1, 2);
        Check.due("given, not sent", 254, x.sum(1));
        Check.due("too short", 0, x.run(1));
        Check.due("the one before stays HELD", 254, x.sum(1));
        Check.due("run(1)", 1, x.run(1));
        Check.due("the new one", 253, x.sum(1));
    }
}
