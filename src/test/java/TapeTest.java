/** Promises 1 to 3: a new object, feed, wipe. */
final class TapeTest {
    private static final Desk DESK = new Desk();

    public static void main(String[] args) {
        newObject();
        feed();
        feedsInOrder();
        fullTape();
        wipe();
        blanksAreLowBytesOnly();
        DESK.end("TapeTest");
    }

    private static void newObject() {
        ProbeConsole x = DESK.anew().console;
        DESK.due("NONE", ProbeConsole.NONE, -1);
        DESK.due("fault of a new object", x.fault(), 0);
        DESK.due("place of a new object", x.place(), -1);
        DESK.due("value of a new object", x.value(), 0);
        DESK.due("invoked of a new object", x.invoked(), 0);
        DESK.due("records of a new object", x.records(), 0);
        DESK.due("keeps of a new object", x.keeps(), 0);
        DESK.due("clear of a new object", x.clear(), 0);
        for (int j = 0; j < 8; j++) {
            int job = j;
            DESK.due("kind of job " + j, x.job(j, 0), 0);
            DESK.due("records left of job " + j, x.job(j, 1), 0);
            DESK.bounds("counted of job " + j, () -> x.counted(job, 0, 0));
        }
        DESK.bounds("call", () -> x.call(0, 1, 2, 3));
        DESK.bounds("record", () -> x.record(0, 0));
        DESK.bounds("kept", () -> x.kept(0, 0));
        DESK.bounds("replay", () -> x.replay(0));
        DESK.due("wipe of a new object", x.wipe(), 0);
        DESK.due("command on an empty tape", x.command(), -1);
        DESK.due("its fault", x.fault(), 1);
        DESK.due("its place", x.place(), 0);
        DESK.due("method on an empty tape", x.method(), -1);
        DESK.due("its fault", x.fault(), 1);
        DESK.due("its place", x.place(), 0);
    }

    private static void feed() {
        ProbeConsole x = DESK.anew().console;
        DESK.due("feed(1)", x.feed(1, 'a'), 1);
        DESK.due("feed(8)", x.feed(8, -1L), 9);
        int[] bad = {0, 9, -1, Integer.MIN_VALUE, Integer.MAX_VALUE};
        for (int n : bad) {
            DESK.argument("feed(" + n + ")", () -> x.feed(n, 0));
        }
        DESK.due("a feed that throws leaves the tape", x.wipe(), 9);
    }

    private static void feedsInOrder() {
        ProbeConsole x = DESK.anew().console;
        // r e s e t, the lowest byte first, and bytes above the fifth that must not come along
        x.feed(5, 0x7a7a7a7465736572L);
        DESK.due("reset", x.command(), 0);
        DESK.due("its fault", x.fault(), 0);
        x.feed(1, 0xff20L);
        x.feed(1, 'x');
        DESK.due("reset x", x.command(), -1);
        DESK.due("place of x", x.place(), 6);
        DESK.due("the tape stays", x.wipe(), 7);
    }

    private static void fullTape() {
        ProbeConsole x = DESK.anew().console;
        for (int i = 0; i < 24; i++) {
            DESK.due("feed", x.feed(8, 0x2020202020202020L), 8 * i + 8);
        }
        DESK.due("feed to 199", x.feed(7, 0x20202020202020L), 199);
        DESK.due("feed above 200", x.feed(2, 0x2020), -1);
        DESK.argument("feed of 0 to a tape nearly full", () -> x.feed(0, 0));
        DESK.due("feed to 200", x.feed(1, 0x20), 200);
        DESK.due("feed to 201", x.feed(1, 0x20), -1);
        DESK.argument("feed of 9 to a full tape", () -> x.feed(9, 0));
        DESK.due("a command of blanks", x.command(), -1);
        DESK.due("its fault", x.fault(), 1);
        DESK.due("its place", x.place(), 200);
        DESK.due("wipe of a full tape", x.wipe(), 200);
        DESK.due("feed behind", x.feed(3, 0), 3);
    }

    private static void wipe() {
        ProbeConsole x = DESK.anew().console;
        DESK.tape("monitor *");
        DESK.due("wipe", x.wipe(), 9);
        DESK.due("wipe again", x.wipe(), 0);
        DESK.due("command on the wiped tape", x.command(), -1);
        DESK.due("its place", x.place(), 0);
        DESK.add("keep a.b");
        DESK.due("command on what was fed behind", x.command(), 0);
        x.wipe();
        DESK.due("a wipe leaves the jobs", x.job(0, 0), 3);
        DESK.due("a wipe leaves the fault", x.fault(), 0);
    }

    private static void blanksAreLowBytesOnly() {
        DESK.anew();
        DESK.command("\0\tkeep\n\u001f* \r", 0);
        DESK.command(" \u0001keep\u0020*\u0020", 1);
        DESK.badCommand("keep\u0021*", 1, 0);
        DESK.badCommand("keep\u00a0*", 1, 0);
        DESK.badCommand("keep *\u00ff", 1, 6);
        DESK.badCommand("keep \u0080", 1, 5);
    }
}
