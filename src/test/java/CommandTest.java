/** Promises 5, 6, 7 and 14: command, the faults of commands with their places, and job. */
final class CommandTest {
    private static final Desk DESK = new Desk();

    public static void main(String[] args) {
        numbersOfJobs();
        verbs();
        points();
        patterns();
        expressions();
        limits();
        kill();
        reset();
        faultyOnesChangeNothing();
        jobsKindsAndRecordsLeft();
        DESK.end("CommandTest");
    }

    private static void numbersOfJobs() {
        DESK.anew();
        for (int i = 0; i < 8; i++) {
            DESK.command(i % 2 == 0 ? "monitor *" : "keep m.*", i);
        }
        DESK.badCommand("monitor *", 5, 9);
        DESK.badCommand("keep * ", 5, 7);
        DESK.badCommand("watch enter * a", 5, 15);
        DESK.badCommand("watch enter * d", 4, 14);
        DESK.badCommand("monitor", 1, 7);
        DESK.command("kill 5", 5);
        DESK.command("kill 2", 2);
        DESK.command("watch throw * x", 2);
        DESK.command("watch throw * x", 5);
        DESK.badCommand("watch throw * x", 5, 15);
        DESK.command("reset", 8);
        DESK.command("keep *", 0);
    }

    private static void verbs() {
        DESK.anew();
        DESK.badCommand("", 1, 0);
        DESK.badCommand("   ", 1, 3);
        String[] none = {"Watch enter * a", "watc enter * a", "watchx enter * a", "watch,enter * a", "monitors *", "kil 1", "kill1", "resets",
            "reset,", "m.f(0)=1", "enter", "7", "*"};
        for (String text : none) {
            DESK.badCommand(text, 1, 0);
            DESK.badCommand("  " + text, 1, 2);
        }
        DESK.command("  monitor   *  ", 0);
        DESK.command("\tkeep\n*\r", 1);
        DESK.badCommand("monitor", 1, 7);
        DESK.badCommand("monitor  ", 1, 9);
        DESK.badCommand("monitor a b", 1, 10);
        DESK.badCommand("keep", 1, 4);
        DESK.badCommand("keep a 1", 1, 7);
    }

    private static void points() {
        DESK.anew();
        DESK.badCommand("watch", 1, 5);
        DESK.badCommand("watch ", 1, 6);
        DESK.badCommand("watch leave * r", 1, 6);
        DESK.badCommand("watch enters * r", 1, 6);
        DESK.badCommand("watch ente * r", 1, 6);
        DESK.badCommand("watch * r", 1, 6);
        DESK.badCommand("watch enter", 1, 11);
        DESK.badCommand("watch enter *", 1, 13);
        DESK.badCommand("watch enter * ", 1, 14);
        DESK.command("watch enter * a", 0);
        DESK.command("watch return * a", 1);
        DESK.command("watch throw * a", 2);
    }

    private static void patterns() {
        DESK.anew();
        DESK.badCommand("monitor m,*", 1, 9);
        DESK.badCommand("monitor M", 1, 8);
        DESK.badCommand("monitor m.1", 1, 10);
        DESK.badCommand("monitor (", 1, 8);
        DESK.badCommand("monitor abcdefghijklm", 3, 20);
        DESK.badCommand("monitor ?************", 3, 20);
        DESK.badCommand("monitor abcdefghijkl,", 1, 20);
        DESK.badCommand("monitor abcdefghijklmnopqrst ,", 3, 20);
        DESK.command("monitor abcdefghijkl", 0);
        DESK.command("monitor ............", 1);
        DESK.command("monitor *?*?*?*?*?*?", 2);
        DESK.command("monitor m", 3);
    }

    private static void expressions() {
        DESK.anew();
        DESK.command("watch enter * a+b+c+r+x+n+k", 0);
        DESK.command("watch enter * 2147483647*100 1000>99", 1);
        DESK.command("watch enter * -a !b?c:r#x", 2);
        DESK.badCommand("watch enter * 2147483648", 2, 14);
        DESK.badCommand("watch enter * 1 2147483648", 2, 16);
        DESK.badCommand("watch enter * q", 4, 14);
        DESK.badCommand("watch enter * a d", 4, 16);
        DESK.badCommand("watch enter * m.f()", 4, 14);
        DESK.badCommand("watch enter * m.f", 4, 14);
        DESK.badCommand("watch enter * a+abcdefghij.klmnop(1)", 4, 16);
        DESK.badCommand("watch enter * 1 m.f(1)", 4, 16);
        DESK.badCommand("watch enter * ab", 1, 14);
        DESK.badCommand("watch enter * m.", 1, 14);
        DESK.badCommand("watch enter * a+ b", 1, 16);
        DESK.badCommand("watch enter * (a", 1, 16);
        DESK.badCommand("watch enter * (a )", 1, 16);
        DESK.badCommand("watch enter * a)", 1, 15);
        DESK.badCommand("watch enter * a,b", 1, 15);
        DESK.badCommand("watch enter * a b)", 1, 17);
        DESK.badCommand("watch enter * " + "-".repeat(20) + "a", 3, 34);
        DESK.badCommand("watch enter * " + "-".repeat(20) + "q", 3, 34);
        DESK.badCommand("watch enter * " + "-".repeat(20) + "m.f()", 3, 34);
        DESK.badCommand("watch enter * " + "(".repeat(13) + "a", 3, 26);
        DESK.badCommand("watch enter * a " + "(".repeat(13) + "a", 3, 28);
        // each expression has nodes and brackets of its own
        DESK.command("watch enter * " + "-".repeat(19) + "a " + "-".repeat(19) + "b 7", 3);
        DESK.command("watch enter * " + "(".repeat(12) + "a" + ")".repeat(12) + " " + "(".repeat(12) + "b" + ")".repeat(12), 4);
    }

    private static void limits() {
        DESK.anew();
        DESK.command("watch enter * r 5 7", 0);
        DESK.command("watch enter * r 5 99", 1);
        DESK.command("watch enter * r 5 1  ", 2);
        DESK.command("watch enter * r 5 0000000000000000000007", 3);
        DESK.command("watch enter * r 5", 4);
        DESK.due("records left of a limit 7", DESK.console.job(0, 1), 7);
        DESK.due("records left of a limit 99", DESK.console.job(1, 1), 99);
        DESK.due("records left of a limit 1", DESK.console.job(2, 1), 1);
        DESK.due("records left of a limit 07", DESK.console.job(3, 1), 7);
        DESK.due("records left without a limit", DESK.console.job(4, 1), 99);
        DESK.badCommand("watch enter * r 5 0", 2, 18);
        DESK.badCommand("watch enter * r 5 00 5", 2, 18);
        DESK.badCommand("watch enter * r 5 0W", 2, 18);
        DESK.badCommand("watch enter * r 5 100", 2, 18);
        DESK.badCommand("watch enter * r 5 100W", 2, 18);
        DESK.badCommand("watch enter * r 5 4294967297", 2, 18);
        DESK.badCommand("watch enter * r 5 " + "9".repeat(150), 2, 18);
        DESK.badCommand("watch enter * r 5 7W", 1, 19);
        DESK.badCommand("watch enter * r 5 7+1", 1, 19);
        DESK.badCommand("watch enter * r 5 -7", 1, 18);
        DESK.badCommand("watch enter * r 5 a", 1, 18);
        DESK.badCommand("watch enter * r 5 7 8", 1, 20);
        DESK.badCommand("watch enter * r 5 7 *", 1, 20);
    }

    private static void kill() {
        DESK.anew();
        DESK.badCommand("kill", 1, 4);
        DESK.badCommand("kill ", 1, 5);
        DESK.badCommand("kill x", 1, 5);
        DESK.badCommand("kill -1", 1, 5);
        DESK.badCommand("kill 0", 5, 6);
        DESK.badCommand("kill 7 ", 5, 7);
        DESK.badCommand("kill 8", 5, 6);
        DESK.badCommand("kill 99", 5, 7);
        DESK.badCommand("kill 100", 2, 5);
        DESK.badCommand("kill 100x", 2, 5);
        DESK.badCommand("kill 1x", 1, 6);
        DESK.badCommand("kill 1 2", 1, 7);
        DESK.command("monitor *", 0);
        DESK.command("monitor *", 1);
        DESK.command(" kill  00 ", 0);
        DESK.badCommand("kill 0", 5, 6);
        DESK.due("the killed job", DESK.console.job(0, 0), 0);
        DESK.due("the other job", DESK.console.job(1, 0), 2);
        DESK.command("kill 1", 1);
    }

    private static void reset() {
        DESK.anew();
        DESK.command("reset", 0);
        DESK.command("monitor *", 0);
        DESK.command("keep *", 1);
        DESK.command("watch enter * a", 2);
        DESK.command("kill 1", 1);
        DESK.badCommand("reset 0", 1, 6);
        DESK.badCommand("reset reset", 1, 6);
        DESK.command("  reset  ", 2);
        for (int j = 0; j < 8; j++) {
            DESK.due("job behind reset", DESK.console.job(j, 0), 0);
        }
        DESK.command("reset", 0);
    }

    private static void faultyOnesChangeNothing() {
        DESK.anew();
        DESK.method("m.f(1)=a", 0);
        DESK.command("watch enter * a+1 a<9 3", 0);
        DESK.command("monitor m.*", 1);
        DESK.badCommand("watch return x.* b*2 0 1 1", 1, 25);
        DESK.badCommand("monitor z z", 1, 10);
        DESK.badCommand("kill 0 0", 1, 7);
        DESK.badCommand("reset 0", 1, 6);
        DESK.call(0, 4, 0, 0, 0, 4);
        DESK.due("records", DESK.console.records(), 1);
        DESK.record(0, 0, 0, 5, 0, 1);
        DESK.due("counted", DESK.console.counted(1, 0, 0), 1);
        DESK.due("records left", DESK.console.job(0, 1), 2);
    }

    private static void jobsKindsAndRecordsLeft() {
        ProbeConsole x = DESK.anew().console;
        DESK.method("m.f(1)=a", 0);
        DESK.command("watch enter * a 1 2", 0);
        DESK.command("monitor *", 1);
        DESK.command("keep *", 2);
        int[] kinds = {1, 2, 3, 0, 0, 0, 0, 0};
        int[] left = {2, 0, 0, 0, 0, 0, 0, 0};
        for (int j = 0; j < 8; j++) {
            DESK.due("kind of " + j, x.job(j, 0), kinds[j]);
            DESK.due("left of " + j, x.job(j, 1), left[j]);
        }
        x.call(0, 1, 0, 0);
        DESK.due("left behind a record", x.job(0, 1), 1);
        x.call(0, 1, 0, 0);
        DESK.due("kind behind the limit", x.job(0, 0), 0);
        DESK.due("left behind the limit", x.job(0, 1), 0);
        DESK.command("watch enter * a", 0);
        DESK.due("left of a job anew", x.job(0, 1), 99);
        int[] bad = {-1, 8, Integer.MIN_VALUE, Integer.MAX_VALUE};
        for (int j : bad) {
            DESK.bounds("job " + j, () -> x.job(j, 0));
            DESK.bounds("job " + j + " of another what", () -> x.job(j, 2));
        }
        int[] whats = {-1, 2, Integer.MIN_VALUE, Integer.MAX_VALUE};
        for (int what : whats) {
            DESK.argument("what " + what + " of a job", () -> x.job(0, what));
            DESK.argument("what " + what + " of no job", () -> x.job(7, what));
        }
    }
}
