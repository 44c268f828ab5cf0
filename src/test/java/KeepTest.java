/** Promises 16, 17 and 18: keeps, kept, replay. */
final class KeepTest {
    private static final Desk DESK = new Desk();

    public static void main(String[] args) {
        whatIsKept();
        fullList();
        severalJobs();
        wrongOnes();
        replay();
        replaySeesWhatIsNow();
        replayIsUnseen();
        DESK.end("KeepTest");
    }

    private static void whatIsKept() {
        ProbeConsole x = DESK.anew().console;
        DESK.method("m.f(3)=m.g(a,b)+m.h(c)", 0);
        DESK.method("m.g(2)=a-b", 1);
        DESK.method("m.h(1)=!a", 2);
        DESK.method("x.z(0)=4", 3);
        DESK.command("monitor *", 0);
        DESK.command("keep m.*", 1);
        DESK.call(0, 9, 4, -6, 1, -6);
        DESK.call(3, 9, 4, -6, 0, 4);
        DESK.due("keeps", x.keeps(), 3);
        DESK.kept(0, 1, 1, 9, 4, 0, 0, 5);
        DESK.kept(1, 1, 2, -6, 0, 0, 1, -6);
        DESK.kept(2, 1, 0, 9, 4, -6, 1, -6);
        DESK.command("kill 1", 1);
        DESK.call(1, 9, 4, 0, 0, 5);
        DESK.due("a killed job keeps no more", x.keeps(), 3);
        DESK.kept(0, 1, 1, 9, 4, 0, 0, 5);
        DESK.due("to keep makes no records", x.records(), 0);
    }

    private static void fullList() {
        ProbeConsole x = DESK.anew().console;
        DESK.method("m.f(1)=a", 0);
        DESK.command("keep *", 0);
        for (int i = 0; i < 45; i++) {
            DESK.call(0, i, 0, 0, 0, i);
            DESK.due("keeps", x.keeps(), Math.min(i + 1, 40));
        }
        DESK.kept(0, 0, 0, 0, 0, 0, 0, 0);
        DESK.kept(39, 0, 0, 39, 0, 0, 0, 39);
        DESK.bounds("kept 40", () -> x.kept(40, 0));
        DESK.bounds("replay 40", () -> x.replay(40));
        DESK.due("clear answers the records", x.clear(), 0);
        DESK.due("keeps behind clear", x.keeps(), 0);
        DESK.call(0, 77, 0, 0, 0, 77);
        DESK.kept(0, 0, 0, 77, 0, 0, 0, 77);
    }

    private static void severalJobs() {
        ProbeConsole x = DESK.anew().console;
        DESK.method("m.f(1)=m.g()+a", 0);
        DESK.method("m.g(0)=3", 1);
        DESK.command("keep *.g", 0);
        DESK.command("keep *", 1);
        DESK.call(0, 1, 0, 0, 0, 4);
        DESK.due("keeps", x.keeps(), 3);
        DESK.kept(0, 0, 1, 0, 0, 0, 0, 3);
        DESK.kept(1, 1, 1, 0, 0, 0, 0, 3);
        DESK.kept(2, 1, 0, 1, 0, 0, 0, 4);
    }

    private static void wrongOnes() {
        ProbeConsole x = DESK.anew().console;
        DESK.method("m.f(1)=a", 0);
        DESK.command("keep *", 0);
        DESK.bounds("kept of none", () -> x.kept(0, 7));
        DESK.call(0, 5, 0, 0, 0, 5);
        int[] rows = {-1, 1, 39, 40, Integer.MIN_VALUE, Integer.MAX_VALUE};
        for (int i : rows) {
            DESK.bounds("kept(" + i + ", 0)", () -> x.kept(i, 0));
            DESK.bounds("kept(" + i + ", 7)", () -> x.kept(i, 7));
            DESK.bounds("replay(" + i + ")", () -> x.replay(i));
        }
        int[] whats = {-1, 7, Integer.MIN_VALUE, Integer.MAX_VALUE};
        for (int what : whats) {
            DESK.argument("kept(0, " + what + ")", () -> x.kept(0, what));
        }
        DESK.due("what throws leaves the value", x.value(), 5);
    }

    private static void replay() {
        ProbeConsole x = DESK.anew().console;
        DESK.method("m.f(2)=a=0?!b:m.f(a-1,b+1)", 0);
        DESK.command("keep *", 0);
        DESK.call(0, 2, 7, 0, 1, 9);
        DESK.call(0, 0, 1, 0, 1, 1);
        DESK.due("keeps", x.keeps(), 4);
        int[] values = {9, 9, 9, 1};
        int[] invoked = {1, 2, 3, 1};
        for (int i = 0; i < 4; i++) {
            DESK.due("replay(" + i + ")", x.replay(i), 1);
            DESK.due("value", x.value(), values[i]);
            DESK.due("invoked", x.invoked(), invoked[i]);
        }
        DESK.due("keeps still", x.keeps(), 4);
    }

    /** The replay is a new invocation: from outside, with the methods that there are now. */
    private static void replaySeesWhatIsNow() {
        ProbeConsole x = DESK.anew().console;
        DESK.method("m.f(1)=m.g(a)", 0);
        DESK.method("m.d(1)=a?m.d(a-1):m.e()", 1);
        DESK.method("m.e(0)=m.h()", 2);
        DESK.command("keep m.f", 0);
        DESK.command("keep m.e", 1);
        DESK.call(0, 3, 0, 0, 1, -4);
        DESK.call(1, 8, 0, 0, 1, -4);
        DESK.kept(1, 1, 2, 0, 0, 0, 1, -4);
        DESK.method("m.g(1)=a*2", 3);
        DESK.method("m.h(0)=6", 4);
        DESK.due("replay", x.replay(0), 0);
        DESK.due("value", x.value(), 6);
        DESK.due("invoked", x.invoked(), 2);
        DESK.call(1, 8, 0, 0, 1, -2);
        DESK.due("replay from outside is not too deep", x.replay(1), 0);
        DESK.due("value", x.value(), 6);
        DESK.kept(0, 0, 0, 3, 0, 0, 1, -4);
    }

    private static void replayIsUnseen() {
        ProbeConsole x = DESK.anew().console;
        DESK.method("m.f(1)=a?m.f(a-1):0", 0);
        DESK.command("keep *", 0);
        DESK.command("monitor *", 1);
        DESK.command("watch enter * a 1 50", 2);
        DESK.call(0, 3, 0, 0, 0, 0);
        DESK.due("replay", x.replay(3), 0);
        DESK.due("invoked", x.invoked(), 4);
        DESK.due("keeps", x.keeps(), 4);
        DESK.due("records", x.records(), 4);
        DESK.due("counted", x.counted(1, 0, 0), 4);
        DESK.due("records left", x.job(2, 1), 46);
        DESK.call(0, 0, 0, 0, 0, 0);
        DESK.due("the next call is seen again", x.counted(1, 0, 0), 5);
    }
}
