/** Requests and answers (60 and 61) and changes of addresses: promise 5 with Terms. */
public final class ServiceTest {
    public static void main(String[] args) {
        asking();
        withoutRequest();
        change();
        refusedChanges();
        tellingWaits();
        changeOfADeafSlave();
        Check.end();
    }

    private static int ask(LinRows x, int address) {
        return Check.give(x, 0, 1, address, 0, 0, 0, 0, 0, 0, 0);
    }

    private static int askChange(LinRows x, int from, int to) {
        return Check.give(x, 0, 1, from, 6, 176, to, 0, 0, 0, 0);
    }

    private static void asking() {
        LinRows x = Check.withService(3);
        Check.give(x, 1, 2, 1, 1, 1, 1, 1, 1, 1, 1);
        Check.give(x, 2, 2, 2, 2, 2, 2, 2, 2, 2, 2);
        Check.due("60 has no octets, 61 asks nobody", 0, x.run(2));
        Check.dueError(x, 0, 1, 1, 1, 0);
        ask(x, 12);
        Check.due("asks 2", 2, x.run(2));
        Check.dueHeld(x, 2, 2, 2, 2, 2, 2, 2, 2, 2);
        Check.due("again, NEW or not", 2, x.run(2));
        ask(x, 11);
        Check.due("asks 1, no collision", 2, x.run(2));
        Check.dueHeld(x, 2, 1, 1, 1, 1, 1, 1, 1, 1);
        ask(x, 13);
        Check.due("3 has no octets", 1, x.run(2));
        ask(x, 99);
        Check.due("nobody has that address", 1, x.run(2));
        ask(x, 12);
        x.rate(2, 141);
        Check.due("2 is deaf", 1, x.run(2));
        Check.dueErrors(x, 1);
    }

    private static void withoutRequest() {
        LinRows x = Check.withSlaves(1);
        x.frame(61, -1, 8, false);
        x.slot(1, 200);
        Check.give(x, 1, 1, 1, 1, 1, 1, 1, 1, 1, 1);
        Check.due("no frame 60", 0, x.run(1));
        x.frame(60, 0, 8, false);
        Check.due("60 was never HELD", 0, x.run(1));
        Check.dueErrors(x, 0);
    }

    private static void change() {
        LinRows x = Check.withService(2);
        Check.give(x, 1, 2, 1, 1, 1, 1, 1, 1, 1, 1);
        askChange(x, 11, 125);
        Check.due("60 alone: nobody has 11 now", 1, x.run(2));
        Check.due("11 is free", 3, x.slave(11));
        Check.due("125 is taken", -3, x.slave(125));
        Check.give(x, 3, 2, 3, 3, 3, 3, 3, 3, 3, 3);
        Check.due("60 again: 125 is taken; 61 asks slave 3", 2, x.run(2));
        Check.dueHeld(x, 2, 3, 3, 3, 3, 3, 3, 3, 3);
        ask(x, 125);
        Check.due("it is told", 2, x.run(2));
        Check.dueHeld(x, 2, 125, 1, 240, 255, 255, 255, 255, 255);
        Check.due("once", 2, x.run(2));
        Check.dueHeld(x, 2, 1, 1, 1, 1, 1, 1, 1, 1);
        askChange(x, 12, 1);
        Check.due("1 is the lowest", 1, x.run(2));
        ask(x, 1);
        Check.due("told without octets for 61", 2, x.run(2));
        Check.dueHeld(x, 2, 1, 1, 240, 255, 255, 255, 255, 255);
        Check.due("then it has none", 1, x.run(2));
        Check.dueErrors(x, 0);
    }

    private static void refusedChanges() {
        int[][] requests = {
            {11, 5, 176, 50}, {11, 6, 175, 50}, {11, 6, 176, 0}, {11, 6, 176, 126}, {11, 6, 176, 255},
            {11, 6, 176, 12}, {11, 6, 176, 11}, {0, 6, 176, 50}, {99, 6, 176, 50}};
        for (int[] r : requests) {
            LinRows x = Check.withService(2);
            x.rate(2, 500);
            Check.give(x, 1, 2, 1, 1, 1, 1, 1, 1, 1, 1);
            Check.give(x, 0, 1, r[0], r[1], r[2], r[3], 0, 0, 0, 0);
            Check.due("60 is DONE", 1, x.run(1));
            boolean asked = r[0] == 11;
            Check.due("1 has its address still", asked ? 1 : 0, x.run(1));
            Check.due("and nothing to tell", asked ? 1 : 0, x.at(2, 0));
            ask(x, 11);
            Check.due("1 has its address still", 2, x.run(2));
            Check.dueHeld(x, 2, 1, 1, 1, 1, 1, 1, 1, 1);
            Check.due("50 is free", 3, x.slave(50));
        }
    }

    private static void tellingWaits() {
        LinRows x = Check.withSlaves(1);
        x.frame(60, 0, 8, false);
        x.frame(61, -1, 8, false);
        x.slot(1, 124);
        x.slot(2, 123);
        x.slot(2, 124);
        askChange(x, 11, 50);
        Check.due("run(3)", 1, x.run(3));
        ask(x, 50);
        x.rate(1, 141);
        Check.due("deaf: not told", 1, x.run(3));
        x.rate(1, 0);
        Check.due("too short: not told but in the next slot", 2, x.run(3));
        Check.dueError(x, 0, 3, 2, 2, 2 * 371 + 124);
        Check.dueHeld(x, 2, 50, 1, 240, 255, 255, 255, 255, 255);
        askChange(x, 50, 51);
        Check.due("run(3)", 1, x.run(3));
        askChange(x, 51, 52);
        Check.due("changed again", 1, x.run(3));
        ask(x, 52);
        Check.due("the newest is told", 2, x.run(3));
        Check.dueHeld(x, 2, 52, 1, 240, 255, 255, 255, 255, 255);
        Check.dueErrors(x, 2);
    }

    private static void changeOfADeafSlave() {
        LinRows x = Check.withService(1);
        x.rate(1, 141);
        askChange(x, 11, 50);
        Check.due("60 is DONE", 1, x.run(2));
        Check.due("but not heard", -3, x.slave(11));
        Check.due("50 is free", 2, x.slave(50));
    }
}
