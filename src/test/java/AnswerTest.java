/**
 * Promise 8: "An octet more of what a node (0 the master) will send in a frame: how many are missing
 * yet; with the last one it has them all, NEW. -1 there is no such node or frame, -2 it is the
 * master and the frame from a slave or ANY, or a slave and the frame from the master or SPORADIC."
 */
public final class AnswerTest {
    private static final byte B = 1;

    public static void main(String[] args) {
        nodeIsUnknown();
        nodeBehindTheLastOfSixteen();
        frameIsUnknown();
        frameBehindTheLastOfSixtyTwo();
        masterForASlavesFrame();
        slaveForTheMastersFrame();
        unknownIsBeforeRange();
        missingForEveryLength();
        behindTheLastOctetTheFirstAgain();
        nodesAndFramesCountByThemselves();
        deafSlavesAreGivenToo();
        smallestAndLargestOctet();
        noRowIsWholeYet();
        wholeRowStaysUntilTheNextIsWhole();
        newRowTakesThePlaceOfANewRow();
        lastOneMakesItNew();
        Check.end();
    }

    /** Frames 1 .. 6: the master's, slave 1's, ANY's, SPORADIC, 60 and 61. */
    private static LinRows withAllKinds() {
        LinRows x = Check.withSlaves(2);
        x.frame(1, 0, 1, false);
        x.frame(2, 1, 1, false);
        x.frame(3, -1, 1, false);
        x.frame(4, -2, 1, false);
        x.frame(60, 0, 8, false);
        x.frame(61, -1, 8, false);
        return x;
    }

    private static void nodeIsUnknown() {
        LinRows x = withAllKinds();
        Check.due("node 3", -1, x.answer(3, 2, B));
        Check.due("node 11: that is an address", -1, x.answer(11, 2, B));
        Check.due("node -1", -1, x.answer(-1, 2, B));
        Check.due("node -2", -1, x.answer(-2, 4, B));
        Check.due("node MIN", -1, x.answer(Integer.MIN_VALUE, 2, B));
        Check.due("node MAX", -1, x.answer(Integer.MAX_VALUE, 2, B));
        Check.due("node 2", 0, x.answer(2, 2, B));
    }

    private static void nodeBehindTheLastOfSixteen() {
        LinRows x = Check.withSlaves(16);
        x.frame(1, -1, 2, false);
        Check.due("node 17", -1, x.answer(17, 1, B));
        Check.due("node 16", 1, x.answer(16, 1, B));
    }

    private static void frameIsUnknown() {
        LinRows x = withAllKinds();
        Check.due("frame 7", -1, x.answer(1, 7, B));
        Check.due("frame 60: that is an identifier", -1, x.answer(0, 60, B));
        Check.due("frame 0", -1, x.answer(1, 0, B));
        Check.due("frame -1", -1, x.answer(0, -1, B));
        Check.due("frame MIN", -1, x.answer(0, Integer.MIN_VALUE, B));
        Check.due("frame MAX", -1, x.answer(0, Integer.MAX_VALUE, B));
        Check.due("neither", -1, x.answer(3, 7, B));
        Check.due("frame 6", 7, x.answer(1, 6, B));
    }

    private static void frameBehindTheLastOfSixtyTwo() {
        LinRows x = Check.withSlaves(1);
        for (int id = 0; id <= 61; id++) {
            x.frame(id, id == 61 ? -1 : 0, 8, false);
        }
        Check.due("frame 63", -1, x.answer(1, 63, B));
        Check.due("frame 62", 7, x.answer(1, 62, B));
    }

    private static void masterForASlavesFrame() {
        LinRows x = withAllKinds();
        Check.due("a slave's", -2, x.answer(0, 2, B));
        Check.due("ANY's", -2, x.answer(0, 3, B));
        Check.due("61", -2, x.answer(0, 6, B));
        Check.due("its own", 0, x.answer(0, 1, B));
        Check.due("SPORADIC", 0, x.answer(0, 4, B));
        Check.due("60", 7, x.answer(0, 5, B));
    }

    private static void slaveForTheMastersFrame() {
        LinRows x = withAllKinds();
        Check.due("the master's", -2, x.answer(1, 1, B));
        Check.due("SPORADIC", -2, x.answer(1, 4, B));
        Check.due("60", -2, x.answer(2, 5, B));
        Check.due("its own", 0, x.answer(1, 2, B));
        Check.due("another's", 0, x.answer(2, 2, B));
        Check.due("ANY's", 0, x.answer(2, 3, B));
        Check.due("61", 7, x.answer(2, 6, B));
    }

    private static void unknownIsBeforeRange() {
        LinRows x = withAllKinds();
        Check.due("slave 3, the master's", -1, x.answer(3, 1, B));
        Check.due("slave 3, SPORADIC", -1, x.answer(3, 4, B));
        Check.due("slave -1, ANY's", -1, x.answer(-1, 3, B));
    }

    private static void missingForEveryLength() {
        for (int length = 1; length <= 8; length++) {
            LinRows x = new LinRows();
            x.frame(1, 0, length, false);
            for (int missing = length - 1; missing >= 0; missing--) {
                Check.due("length " + length, missing, x.answer(0, 1, B));
            }
        }
    }

    private static void behindTheLastOctetTheFirstAgain() {
        LinRows x = new LinRows();
        x.frame(1, 0, 3, false);
        for (int round = 0; round < 3; round++) {
            Check.due("first", 2, x.answer(0, 1, B));
            Check.due("second", 1, x.answer(0, 1, B));
            Check.due("last", 0, x.answer(0, 1, B));
        }
    }

    private static void nodesAndFramesCountByThemselves() {
        LinRows x = Check.withSlaves(2);
        x.frame(1, -1, 3, false);
        x.frame(2, 1, 3, false);
        for (int missing = 2; missing >= 0; missing--) {
            Check.due("slave 1", missing, x.answer(1, 1, B));
            Check.due("slave 1, frame 2", missing, x.answer(1, 2, B));
            Check.due("slave 2", missing, x.answer(2, 1, B));
        }
    }

    private static void deafSlavesAreGivenToo() {
        LinRows x = Check.withSlaves(1);
        x.frame(1, 1, 2, false);
        x.rate(1, 999);
        Check.due("first", 1, x.answer(1, 1, B));
        Check.due("last", 0, x.answer(1, 1, B));
    }

    private static void smallestAndLargestOctet() {
        LinRows x = new LinRows();
        x.frame(1, 0, 4, false);
        x.slot(1, 84);
        x.answer(0, 1, Byte.MIN_VALUE);
        x.answer(0, 1, Byte.MAX_VALUE);
        x.answer(0, 1, (byte) -1);
        Check.due("last", 0, x.answer(0, 1, (byte) 0));
        Check.due("run(1)", 1, x.run(1));
        Check.dueHeld(x, 1, 128, 127, 255, 0);
    }

    /** One octet too few is as none: for each kind of frame, without the last octet nobody sends. */
    private static void noRowIsWholeYet() {
        LinRows x = Check.withSlaves(1);
        x.frame(1, 0, 2, false);
        x.frame(2, 1, 2, false);
        x.frame(3, -1, 2, false);
        x.frame(4, -2, 2, false);
        for (int frame = 1; frame <= 4; frame++) {
            x.slot(frame, 64);
            Check.due("first", 1, x.answer(frame == 2 || frame == 3 ? 1 : 0, frame, B));
        }
        Check.due("run(4)", 0, x.run(4));
        Check.dueError(x, 0, 1, 1, 1, 0);
        Check.dueError(x, 1, 1, 2, 2, 64);
        Check.dueErrors(x, 2);
        for (int frame = 1; frame <= 4; frame++) {
            Check.due("last", 0, x.answer(frame == 2 || frame == 3 ? 1 : 0, frame, B));
        }
        Check.due("run(4)", 4, x.run(4));
    }

    private static void wholeRowStaysUntilTheNextIsWhole() {
        LinRows x = new LinRows();
        x.frame(1, 0, 2, false);
        x.frame(2, -2, 2, false);
        x.slot(1, 100);
        x.slot(2, 100);
        Check.give(x, 0, 1, 1, 2, 3);
        Check.give(x, 0, 2, 1, 2, 3);
        Check.due("1, 2 are sent", 2, x.run(2));
        Check.dueHeld(x, 1, 1, 2);
        Check.dueHeld(x, 2, 1, 2);
        Check.due("the half row is not NEW", 1, x.run(2));
        Check.due("the other half", 0, x.answer(0, 1, (byte) 4));
        Check.due("the other half", 0, x.answer(0, 2, (byte) 4));
        Check.due("3, 4 are sent", 2, x.run(2));
        Check.dueHeld(x, 1, 3, 4);
        Check.dueHeld(x, 2, 3, 4);
        Check.dueErrors(x, 0);
    }

    private static void newRowTakesThePlaceOfANewRow() {
        LinRows x = new LinRows();
        x.frame(1, -2, 2, false);
        x.slot(1, 64);
        Check.give(x, 0, 1, 1, 2, 3, 4);
        Check.due("once, not twice", 1, x.run(2));
        Check.dueHeld(x, 1, 3, 4);
    }

    private static void lastOneMakesItNew() {
        LinRows x = new LinRows();
        x.frame(1, -2, 2, false);
        x.slot(1, 64);
        Check.give(x, 0, 1, 1, 2);
        Check.due("sent", 1, x.run(1));
        Check.give(x, 0, 1, 1);
        Check.due("not NEW yet", 0, x.run(1));
        Check.give(x, 0, 1, 2);
        Check.due("the same octets are NEW again", 1, x.run(1));
        Check.due("and no more", 0, x.run(1));
    }
}
