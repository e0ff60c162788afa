/**
 * Promise 14: "Octet i of what a frame HELD last (0 before); 0 if there is no frame.
 * ArrayIndexOutOfBoundsException before and behind its octets."
 */
public final class AtTest {
    public static void main(String[] args) {
        noFrame();
        frameBehindTheLastOfSixtyTwo();
        zeroBeforeAnythingWasHeld();
        beforeAndBehindTheOctets();
        firstAndLastOctetOfEveryLength();
        octetsAreBytes();
        Check.end();
    }

    private static void noFrame() {
        LinRows x = new LinRows();
        Check.due("no frames", 0, x.at(1, 0));
        Check.due("no frames, before", 0, x.at(1, -1));
        Check.due("no frames, behind", 0, x.at(1, 8));
        x.frame(9, 0, 1, true);
        x.slot(1, 54);
        Check.give(x, 0, 1, 77);
        x.run(1);
        for (int frame : new int[] {0, 2, 9, -1, Integer.MIN_VALUE, Integer.MAX_VALUE}) {
            Check.due("frame " + frame, 0, x.at(frame, 0));
            Check.due("frame " + frame + ", MIN", 0, x.at(frame, Integer.MIN_VALUE));
            Check.due("frame " + frame + ", MAX", 0, x.at(frame, Integer.MAX_VALUE));
        }
        Check.due("frame 1", 77, x.at(1, 0));
    }

    private static void frameBehindTheLastOfSixtyTwo() {
        LinRows x = new LinRows();
        for (int id = 0; id <= 61; id++) {
            x.frame(id, id == 61 ? -1 : 0, 8, false);
        }
        Check.dueThrows(x, 62, 8);
        Check.due("frame 63", 0, x.at(63, 8));
    }

    private static void zeroBeforeAnythingWasHeld() {
        LinRows x = new LinRows();
        x.frame(9, 0, 2, true);
        x.slot(1, 64);
        Check.dueHeld(x, 1, 0, 0);
        Check.give(x, 0, 1, 5, 6);
        Check.dueHeld(x, 1, 0, 0);
        Check.due("run(1)", 1, x.run(1));
        Check.dueHeld(x, 1, 5, 6);
        Check.give(x, 0, 1, 7, 8);
        Check.dueHeld(x, 1, 5, 6);
    }

    private static void beforeAndBehindTheOctets() {
        LinRows x = new LinRows();
        x.frame(9, 0, 3, true);
        for (int i : new int[] {-1, 3, 8, Integer.MIN_VALUE, Integer.MAX_VALUE}) {
            Check.dueThrows(x, 1, i);
        }
        Check.due("what it threw changed nothing", 0, x.at(1, 2));
    }

    private static void firstAndLastOctetOfEveryLength() {
        for (int length = 1; length <= 8; length++) {
            LinRows x = new LinRows();
            x.frame(9, 0, length, true);
            x.slot(1, 124);
            int[] octets = new int[length];
            for (int i = 0; i < length; i++) {
                octets[i] = 10 * length + i;
            }
            ends(x, length);
            Check.give(x, 0, 1, octets);
            Check.due("run(1)", 1, x.run(1));
            Check.dueHeld(x, 1, octets);
            ends(x, length);
        }
    }

    private static void ends(LinRows x, int length) {
        Check.dueThrows(x, 1, -1);
        Check.dueThrows(x, 1, length);
    }

    private static void octetsAreBytes() {
        LinRows x = new LinRows();
        x.frame(9, 0, 8, true);
        x.slot(1, 124);
        Check.give(x, 0, 1, 127, 128, 255, 0, 1, 254, 129, 200);
        Check.due("run(1)", 1, x.run(1));
        int[] bytes = {127, -128, -1, 0, 1, -2, -127, -56};
        for (int i = 0; i < 8; i++) {
            Check.due("at(1, " + i + ")", bytes[i], x.at(1, i));
        }
    }
}
