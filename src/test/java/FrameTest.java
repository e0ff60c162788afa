/** Promise 3. */
public final class FrameTest {
    public static void main(String[] args) {
        refusals();
        services();
        allIdentifiers();
        Check.end();
    }

    private static void refusals() {
        LinRows x = Check.withSlaves(2);
        Check.due("a slave's", 1, x.frame(0, 2, 1, true));
        Check.due("slave 3", -1, x.frame(1, 3, 1, true));
        Check.due("unknown is before range", -1, x.frame(62, 3, 9, true));
        Check.due("unknown is before state", -1, x.frame(0, 3, 1, true));
        Check.due("from MAX", -1, x.frame(1, Integer.MAX_VALUE, 1, true));
        Check.due("from -3", -2, x.frame(1, -3, 1, true));
        Check.due("from MIN", -2, x.frame(1, Integer.MIN_VALUE, 1, true));
        Check.due("identifier -1", -2, x.frame(-1, 0, 1, true));
        Check.due("identifier 62", -2, x.frame(62, 0, 1, true));
        Check.due("length 0", -2, x.frame(1, 0, 0, true));
        Check.due("length 9", -2, x.frame(1, 0, 9, true));
        Check.due("range is before state", -2, x.frame(0, 0, 9, true));
        Check.due("identifier 0 again", -3, x.frame(0, 0, 8, false));
        Check.due("the master's", 2, x.frame(1, 0, 8, false));
        Check.due("ANY", 3, x.frame(2, -1, 8, false));
        Check.due("SPORADIC", 4, x.frame(59, -2, 1, false));
        Check.due("length: 7 is the last octet", 0, x.at(2, 7));
        Check.dueThrows(x, 1, 1);
    }

    private static void services() {
        LinRows x = Check.withSlaves(1);
        Check.due("60 from a slave", -2, x.frame(60, 1, 8, false));
        Check.due("60 from ANY", -2, x.frame(60, -1, 8, false));
        Check.due("60 SPORADIC", -2, x.frame(60, -2, 8, false));
        Check.due("60 with 7", -2, x.frame(60, 0, 7, false));
        Check.due("61 from the master", -2, x.frame(61, 0, 8, false));
        Check.due("61 from a slave", -2, x.frame(61, 1, 8, false));
        Check.due("61 SPORADIC", -2, x.frame(61, -2, 8, false));
        Check.due("61 with 7", -2, x.frame(61, -1, 7, false));
        Check.due("60", 1, x.frame(60, 0, 8, false));
        Check.due("60 again", -3, x.frame(60, 0, 8, false));
        Check.due("60 again, wrongly", -2, x.frame(60, 1, 8, false));
        Check.due("61", 2, x.frame(61, -1, 8, true));
        Check.due("61 again", -3, x.frame(61, -1, 8, true));
    }

    private static void allIdentifiers() {
        LinRows x = new LinRows();
        for (int id = 0; id <= 61; id++) {
            Check.due("frame " + (id + 1), id + 1, x.frame(id, id == 61 ? -1 : 0, 8, true));
        }
        for (int id = 0; id <= 61; id++) {
            Check.due("there is one", -3, x.frame(id, id == 61 ? -1 : 0, 8, true));
        }
        Check.due("the last one is there", -3, x.sum(62));
        Check.due("none behind it", -1, x.sum(63));
    }
}
