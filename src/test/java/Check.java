/** Compares answers with those that are due, and builds what many tests begin with. */
final class Check {
    private static int wrong = 0;
    private static int asked = 0;

    private Check() {
    }

    static void due(String call, long want, long got) {
        asked++;
        if (got != want) {
            wrong++;
            StackTraceElement at = new Throwable().getStackTrace()[1];
            System.out.println(at.getFileName() + ":" + at.getLineNumber() + ": " + call
                + " answered " + got + ", due is " + want);
        }
    }

    static void dueThrows(LinRows x, int frame, int i) {
        due("at(" + frame + ", " + i + ") throws", 1, thrownBy(x, frame, i));
    }

    /** 1 if at throws what the document names, 2 if something else, 0 if nothing. */
    static int thrownBy(LinRows x, int frame, int i) {
        try {
            x.at(frame, i);
            return 0;
        } catch (RuntimeException e) {
            return e.getClass() == ArrayIndexOutOfBoundsException.class ? 1 : 2;
        }
    }

    /** Gives a node a whole row of octets; answers what the last call of answer did. */
    static int give(LinRows x, int node, int frame, int... octets) {
        int last = Integer.MIN_VALUE;
        for (int o : octets) {
            last = x.answer(node, frame, (byte) o);
        }
        return last;
    }

    static void dueHeld(LinRows x, int frame, int... octets) {
        for (int i = 0; i < octets.length; i++) {
            due("at(" + frame + ", " + i + ")", (byte) octets[i], x.at(frame, i));
        }
    }

    static void dueError(LinRows x, int i, int kind, int slot, int frame, int tick) {
        due("error(" + i + ", 0)", kind, x.error(i, 0));
        due("error(" + i + ", 1)", slot, x.error(i, 1));
        due("error(" + i + ", 2)", frame, x.error(i, 2));
        due("error(" + i + ", 3)", tick, x.error(i, 3));
    }

    static void dueErrors(LinRows x, int count) {
        due("error(" + count + ", 0)", -1, x.error(count, 0));
        if (count > 0) {
            due("there is an error " + (count - 1), 1, x.error(count - 1, 0) > 0 ? 1 : 0);
        }
    }

    static void dueTable(LinRows x, int slot, int... slaves) {
        for (int i = 0; i < slaves.length; i++) {
            due("collision(" + slot + ", " + i + ")", slaves[i], x.collision(slot, i));
        }
        due("collision(" + slot + ", " + slaves.length + ")", 0, x.collision(slot, slaves.length));
    }

    /** Slaves 1 .. count with the addresses 11, 12, .. */
    static LinRows withSlaves(int count) {
        LinRows x = new LinRows();
        for (int n = 1; n <= count; n++) {
            due("slave(" + (10 + n) + ")", n, x.slave(10 + n));
        }
        return x;
    }

    /** Slaves as above, frame 1 = request and frame 2 = answer, each with a slot of 200 ticks. */
    static LinRows withService(int slaves) {
        LinRows x = withSlaves(slaves);
        due("frame(60, ..)", 1, x.frame(60, 0, 8, false));
        due("frame(61, ..)", 2, x.frame(61, -1, 8, false));
        due("slot(1, 200)", 1, x.slot(1, 200));
        due("slot(2, 200)", 2, x.slot(2, 200));
        return x;
    }

    static void end() {
        if (asked == 0 || wrong != 0) {
            System.out.println(wrong + " of " + asked + " answers are not as due");
            System.exit(1);
        }
    }
}
