/** Promise 6: "The protected identifier. -2 it is not 0 .. 63." */
public final class ParityTest {
    // As the LIN specification's table of protected identifiers has them.
    private static final int[] TABLE = {
        0x80, 0xC1, 0x42, 0x03, 0xC4, 0x85, 0x06, 0x47, 0x08, 0x49, 0xCA, 0x8B, 0x4C, 0x0D, 0x8E, 0xCF,
        0x50, 0x11, 0x92, 0xD3, 0x14, 0x55, 0xD6, 0x97, 0xD8, 0x99, 0x1A, 0x5B, 0x9C, 0xDD, 0x5E, 0x1F,
        0x20, 0x61, 0xE2, 0xA3, 0x64, 0x25, 0xA6, 0xE7, 0xA8, 0xE9, 0x6A, 0x2B, 0xEC, 0xAD, 0x2E, 0x6F,
        0xF0, 0xB1, 0x32, 0x73, 0xB4, 0xF5, 0x76, 0x37, 0x78, 0x39, 0xBA, 0xFB, 0x3C, 0x7D, 0xFE, 0xBF};

    public static void main(String[] args) {
        allIdentifiers();
        tooSmall();
        tooLarge();
        identifiersThatNoFrameHas();
        Check.end();
    }

    private static void allIdentifiers() {
        LinRows x = new LinRows();
        for (int id = 0; id < 64; id++) {
            Check.due("parity(" + id + ")", TABLE[id], x.parity(id));
        }
    }

    private static void tooSmall() {
        LinRows x = new LinRows();
        Check.due("parity(-1)", -2, x.parity(-1));
        Check.due("parity(-64)", -2, x.parity(-64));
        Check.due("parity(MIN)", -2, x.parity(Integer.MIN_VALUE));
        Check.due("parity(0)", 0x80, x.parity(0));
    }

    private static void tooLarge() {
        LinRows x = new LinRows();
        Check.due("parity(64)", -2, x.parity(64));
        Check.due("parity(0x80), protected already", -2, x.parity(0x80));
        Check.due("parity(MAX)", -2, x.parity(Integer.MAX_VALUE));
        Check.due("parity(63)", 0xBF, x.parity(63));
    }

    private static void identifiersThatNoFrameHas() {
        LinRows x = new LinRows();
        Check.due("no frame 62", -2, x.frame(62, 0, 8, false));
        Check.due("parity(62)", 0xFE, x.parity(62));
        Check.due("no frame 63", -2, x.frame(63, 0, 8, false));
        Check.due("parity(63)", 0xBF, x.parity(63));
    }
}
