/**
 * Promise 3: "A frame: its number; from is 0 the master, a slave's number, -1 ANY, -2 SPORADIC. -1
 * there is no such slave, -2 the identifier or length is none, or from is below -2; 60 is not from
 * the master, 61 not from ANY, or one of them has not 8 octets, -3 there is one with that
 * identifier."
 */
public final class FrameTest {
    public static void main(String[] args) {
        identifierTooSmall();
        identifierTooLarge();
        lengthTooSmall();
        lengthTooLarge();
        lowestFrom();
        slaveIsUnknown();
        slaveBehindTheLastOfSixteen();
        requestIsFromTheMaster();
        requestHasEightOctets();
        answerIsFromAny();
        answerHasEightOctets();
        identifierIsTaken();
        allSixtyTwo();
        unknownIsBeforeRange();
        unknownIsBeforeState();
        rangeIsBeforeState();
        Check.end();
    }

    private static void identifierTooSmall() {
        LinRows x = new LinRows();
        Check.due("identifier -1", -2, x.frame(-1, 0, 1, true));
        Check.due("identifier MIN", -2, x.frame(Integer.MIN_VALUE, 0, 1, true));
        Check.due("identifier 0", 1, x.frame(0, 0, 1, true));
    }

    private static void identifierTooLarge() {
        LinRows x = new LinRows();
        Check.due("identifier 62", -2, x.frame(62, 0, 1, true));
        Check.due("identifier 62 as if it were 61", -2, x.frame(62, -1, 8, true));
        Check.due("identifier 63", -2, x.frame(63, 0, 8, true));
        Check.due("identifier 64", -2, x.frame(64, 0, 1, true));
        Check.due("identifier MAX", -2, x.frame(Integer.MAX_VALUE, 0, 1, true));
        Check.due("identifier 61", 1, x.frame(61, -1, 8, true));
        Check.due("identifier 59, the last that is free in all", 2, x.frame(59, -2, 1, true));
    }

    private static void lengthTooSmall() {
        LinRows x = new LinRows();
        Check.due("length 0", -2, x.frame(1, 0, 0, true));
        Check.due("length -1", -2, x.frame(1, 0, -1, true));
        Check.due("length MIN", -2, x.frame(1, 0, Integer.MIN_VALUE, true));
        Check.due("length 1", 1, x.frame(1, 0, 1, true));
        Check.due("it has an octet 0", 0, x.at(1, 0));
        Check.dueThrows(x, 1, 1);
    }

    private static void lengthTooLarge() {
        LinRows x = new LinRows();
        Check.due("length 9", -2, x.frame(1, 0, 9, true));
        Check.due("length MAX", -2, x.frame(1, 0, Integer.MAX_VALUE, true));
        Check.due("length 8", 1, x.frame(1, 0, 8, true));
        Check.due("it has an octet 7", 0, x.at(1, 7));
        Check.dueThrows(x, 1, 8);
    }

    private static void lowestFrom() {
        LinRows x = new LinRows();
        Check.due("from -3", -2, x.frame(1, -3, 1, true));
        Check.due("from MIN", -2, x.frame(1, Integer.MIN_VALUE, 1, true));
        Check.due("from -2", 1, x.frame(1, -2, 1, true));
        Check.due("from -1", 2, x.frame(2, -1, 1, true));
        Check.due("from 0", 3, x.frame(3, 0, 1, true));
    }

    private static void slaveIsUnknown() {
        LinRows x = new LinRows();
        Check.due("from 1, without slaves", -1, x.frame(1, 1, 1, true));
        x.slave(50);
        Check.due("from 2", -1, x.frame(1, 2, 1, true));
        Check.due("from 50: that is an address", -1, x.frame(1, 50, 1, true));
        Check.due("from MAX", -1, x.frame(1, Integer.MAX_VALUE, 1, true));
        Check.due("from 1", 1, x.frame(1, 1, 1, true));
    }

    private static void slaveBehindTheLastOfSixteen() {
        LinRows x = Check.withSlaves(16);
        Check.due("from 17", -1, x.frame(1, 17, 1, true));
        Check.due("from 16", 1, x.frame(1, 16, 1, true));
    }

    private static void requestIsFromTheMaster() {
        LinRows x = Check.withSlaves(1);
        Check.due("60 from a slave", -2, x.frame(60, 1, 8, false));
        Check.due("60 from ANY", -2, x.frame(60, -1, 8, false));
        Check.due("60 SPORADIC", -2, x.frame(60, -2, 8, false));
        Check.due("60 from the master", 1, x.frame(60, 0, 8, false));
    }

    private static void requestHasEightOctets() {
        LinRows x = new LinRows();
        Check.due("60 with 7", -2, x.frame(60, 0, 7, false));
        Check.due("60 with 9", -2, x.frame(60, 0, 9, false));
        Check.due("60 with 1", -2, x.frame(60, 0, 1, false));
        Check.due("60 with 8", 1, x.frame(60, 0, 8, true));
    }

    private static void answerIsFromAny() {
        LinRows x = Check.withSlaves(1);
        Check.due("61 from the master", -2, x.frame(61, 0, 8, false));
        Check.due("61 from a slave", -2, x.frame(61, 1, 8, false));
        Check.due("61 SPORADIC", -2, x.frame(61, -2, 8, false));
        Check.due("61 from ANY", 1, x.frame(61, -1, 8, false));
    }

    private static void answerHasEightOctets() {
        LinRows x = new LinRows();
        Check.due("61 with 7", -2, x.frame(61, -1, 7, false));
        Check.due("61 with 9", -2, x.frame(61, -1, 9, false));
        Check.due("61 with 1", -2, x.frame(61, -1, 1, false));
        Check.due("61 with 8", 1, x.frame(61, -1, 8, true));
    }

    private static void identifierIsTaken() {
        LinRows x = Check.withSlaves(1);
        Check.due("identifier 7", 1, x.frame(7, 0, 1, true));
        Check.due("7 again", -3, x.frame(7, 0, 1, true));
        Check.due("7 of another kind", -3, x.frame(7, 1, 8, false));
        Check.due("7 from ANY", -3, x.frame(7, -1, 8, false));
        Check.due("refusals took no numbers", 2, x.frame(8, 0, 1, true));
    }

    private static void allSixtyTwo() {
        LinRows x = new LinRows();
        for (int id = 61; id >= 0; id--) {
            Check.due("identifier " + id, 62 - id, x.frame(id, id == 61 ? -1 : 0, 8, true));
        }
        for (int id = 0; id <= 61; id++) {
            Check.due("there is one", -3, x.frame(id, id == 61 ? -1 : 0, 8, true));
        }
        Check.due("no identifier is left", -2, x.frame(62, 0, 8, true));
        Check.due("the last one is there", -3, x.sum(62));
        Check.due("none behind it", -1, x.sum(63));
        Check.due("nor a slot for it", -1, x.slot(63, 200));
        Check.due("nor octets", -1, x.answer(0, 63, (byte) 1));
        Check.due("nor anything HELD", 0, x.at(63, 0));
    }

    private static void unknownIsBeforeRange() {
        LinRows x = Check.withSlaves(2);
        Check.due("slave 3 and identifier -1", -1, x.frame(-1, 3, 1, true));
        Check.due("slave 3 and identifier 62", -1, x.frame(62, 3, 1, true));
        Check.due("slave 3 and length 0", -1, x.frame(1, 3, 0, true));
        Check.due("slave 3 and length 9", -1, x.frame(1, 3, 9, true));
        Check.due("slave 3 and 60", -1, x.frame(60, 3, 8, true));
        Check.due("slave 3 and 61 with 7", -1, x.frame(61, 3, 7, true));
    }

    private static void unknownIsBeforeState() {
        LinRows x = Check.withSlaves(2);
        Check.due("identifier 1", 1, x.frame(1, 2, 1, true));
        Check.due("slave 3 and 1 again", -1, x.frame(1, 3, 1, true));
    }

    private static void rangeIsBeforeState() {
        LinRows x = Check.withService(1);
        Check.due("identifier 1", 3, x.frame(1, 1, 1, true));
        Check.due("length 0 and 1 again", -2, x.frame(1, 1, 0, true));
        Check.due("length 9 and 1 again", -2, x.frame(1, 1, 9, true));
        Check.due("from -3 and 1 again", -2, x.frame(1, -3, 1, true));
        Check.due("60 again, from a slave", -2, x.frame(60, 1, 8, false));
        Check.due("61 again, with 7", -2, x.frame(61, -1, 7, false));
    }
}
