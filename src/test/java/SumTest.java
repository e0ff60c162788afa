/** Promise 7. */
public final class SumTest {
    public static void main(String[] args) {
        refusals();
        Check.due("plain", 255 - 3, sumOf(5, false, 1, 2));
        Check.due("octets are 0 .. 255", 255 - 0x81, sumOf(5, false, 0x80, 1));
        Check.due("255 stays", 0, sumOf(5, false, 255));
        Check.due("255 in two", 0, sumOf(5, false, 254, 1));
        Check.due("256 is 1", 254, sumOf(5, false, 254, 2));
        Check.due("510 is 255", 0, sumOf(5, false, 255, 255));
        Check.due("nothing", 255, sumOf(5, false, 0, 0, 0));
        Check.due("carry after carry", 0xE6, sumOf(5, false, 0x4A, 0x55, 0x93, 0xE5));
        // 0x4A as the protected identifier of 10 is 0xCA: the same octets behind it.
        Check.due("enhanced", 255 - carry(0xCA, 0x55, 0x93, 0xE5), sumOf(10, true, 0x55, 0x93, 0xE5));
        Check.due("not enhanced", 255 - carry(0x55, 0x93, 0xE5), sumOf(10, false, 0x55, 0x93, 0xE5));
        Check.due("enhanced with 8", 255 - carry(0x80, 1, 2, 3, 4, 5, 6, 7, 255),
            sumOf(0, true, 1, 2, 3, 4, 5, 6, 7, 255));
        Check.due("60 is never enhanced", 255 - 36, sumOf(60, true, 1, 2, 3, 4, 5, 6, 7, 8));
        Check.due("60 not enhanced", 255 - 36, sumOf(60, false, 1, 2, 3, 4, 5, 6, 7, 8));
        answerIsNeverEnhanced();
        Check.end();
    }

    private static int carry(int... octets) {
        int total = 0;
        for (int o : octets) {
            total += o;
        }
        while (total > 255) {
            total = (total & 255) + (total >> 8);
        }
        return total;
    }

    private static int sumOf(int identifier, boolean enhanced, int... octets) {
        LinRows x = new LinRows();
        x.frame(identifier, 0, octets.length, enhanced);
        x.slot(1, 200);
        Check.due("all given", 0, Check.give(x, 0, 1, octets));
        Check.due("not sent yet", -3, x.sum(1));
        Check.due("run(1)", 1, x.run(1));
        return x.sum(1);
    }

    private static void refusals() {
        LinRows x = new LinRows();
        Check.due("sum(1)", -1, x.sum(1));
        Check.due("frame", 1, x.frame(5, 0, 1, false));
        Check.due("never HELD", -3, x.sum(1));
        Check.due("sum(0)", -1, x.sum(0));
        Check.due("sum(2)", -1, x.sum(2));
        Check.due("sum(-1)", -1, x.sum(-1));
        Check.due("sum(MIN)", -1, x.sum(Integer.MIN_VALUE));
    }

    private static void answerIsNeverEnhanced() {
        LinRows x = Check.withSlaves(1);
        x.frame(60, 0, 8, true);
        x.frame(61, -1, 8, true);
        x.slot(1, 200);
        x.slot(2, 200);
        Check.give(x, 0, 1, 11, 0, 0, 0, 0, 0, 0, 0);
        Check.give(x, 1, 2, 1, 2, 3, 4, 5, 6, 7, 8);
        Check.due("run(2)", 2, x.run(2));
        Check.due("61 is never enhanced", 255 - 36, x.sum(2));
    }
}
