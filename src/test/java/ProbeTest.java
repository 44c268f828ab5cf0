/** Promises 11, 12, 13 and 15: records, record, clear, counted, and what the probes see. */
final class ProbeTest {
    private static final Desk DESK = new Desk();

    public static void main(String[] args) {
        points();
        orderOfJobs();
        conditionsAndErrors();
        variables();
        patterns();
        limits();
        fullList();
        clear();
        monitors();
        monitorsBegin();
        unseenInvocations();
        laterMethods();
        wrongRecords();
        wrongCounts();
        DESK.end("ProbeTest");
    }

    private static void points() {
        DESK.anew();
        DESK.method("m.f(1)=a?m.f(a-1):m.g(a)", 0);
        DESK.method("m.g(1)=!8", 1);
        DESK.method("m.h(0)=m.f(1)#3", 2);
        DESK.command("watch enter * 1", 0);
        DESK.command("watch return * 2", 1);
        DESK.command("watch throw * 3", 2);
        DESK.call(2, 0, 0, 0, 0, 3);
        DESK.due("records", DESK.console.records(), 8);
        DESK.record(0, 0, 2, 1, 0, 1);
        DESK.record(1, 0, 0, 1, 0, 2);
        DESK.record(2, 0, 0, 1, 0, 3);
        DESK.record(3, 0, 1, 1, 0, 4);
        DESK.record(4, 2, 1, 3, 0, 4);
        DESK.record(5, 2, 0, 3, 0, 3);
        DESK.record(6, 2, 0, 3, 0, 2);
        DESK.record(7, 1, 2, 2, 0, 1);
    }

    private static void orderOfJobs() {
        DESK.anew();
        DESK.method("m.f(0)=1", 0);
        for (int j = 0; j < 8; j++) {
            DESK.command("watch " + (j % 2 == 0 ? "return" : "enter") + " * " + j * 10, j);
        }
        DESK.command("kill 3", 3);
        DESK.command("watch enter * 99", 3);
        DESK.call(0, 0, 0, 0, 0, 1);
        int[] jobs = {1, 3, 5, 7, 0, 2, 4, 6};
        for (int i = 0; i < 8; i++) {
            DESK.record(i, jobs[i], 0, jobs[i] == 3 ? 99 : jobs[i] * 10, 0, 1);
        }
    }

    private static void conditionsAndErrors() {
        DESK.anew();
        DESK.method("m.f(2)=a", 0);
        DESK.command("watch enter * a*2 a>1", 0);
        DESK.command("watch enter * a/b", 1);
        DESK.command("watch enter * !9 a/b", 2);
        DESK.command("watch enter * a !a#0", 3);
        DESK.command("watch enter * !77 !a 5", 4);
        DESK.call(0, 1, 0, 0, 0, 1);
        DESK.due("records", DESK.console.records(), 3);
        DESK.record(0, 1, 0, -1, 1, 1);
        DESK.record(1, 2, 0, -1, 1, 1);
        DESK.record(2, 4, 0, 1, 1, 1);
        DESK.call(0, 4, 2, 0, 0, 4);
        DESK.due("records", DESK.console.records(), 7);
        DESK.record(3, 0, 0, 8, 0, 1);
        DESK.record(4, 1, 0, 2, 0, 1);
        DESK.record(5, 2, 0, 9, 1, 1);
        DESK.record(6, 4, 0, 4, 1, 1);
        DESK.due("errors count as records", DESK.console.job(4, 1), 3);
        DESK.call(0, -1, -1, 0, 0, -1);
        DESK.due("what is not recorded doesn't count", DESK.console.job(0, 1), 98);
    }

    private static void variables() {
        DESK.anew();
        DESK.method("m.f(2)=a=0?!5:b=0?7:m.f(a-1,b-1)", 0);
        DESK.command("watch enter * a*1000+b*100+c*10+r+x", 0);
        DESK.command("watch return * r*100+x*10+n", 1);
        DESK.command("watch throw * r*100+x*10+n", 2);
        DESK.command("watch enter * k k<2", 3);
        DESK.call(0, 2, 1, 9, 0, 7);
        DESK.due("records", DESK.console.records(), 6);
        DESK.record(0, 0, 0, 2100, 0, 1);
        DESK.record(1, 3, 0, 0, 0, 1);
        DESK.record(2, 0, 0, 1000, 0, 2);
        DESK.record(3, 3, 0, 1, 0, 2);
        DESK.record(4, 1, 0, 702, 0, 2);
        DESK.record(5, 1, 0, 701, 0, 1);
        DESK.call(0, 1, 2, 9, 1, 5);
        DESK.due("records", DESK.console.records(), 10);
        DESK.record(8, 2, 0, 52, 0, 2);
        DESK.record(9, 2, 0, 51, 0, 1);
        DESK.due("records left of k<2", DESK.console.job(3, 1), 97);
    }

    private static void patterns() {
        String[] names = {"m.f", "m.ff", "mm.f", "x.f", "abcdef.ghijk", "aba.bab"};
        fits(names, "*", 0, 1, 2, 3, 4, 5);
        fits(names, "**", 0, 1, 2, 3, 4, 5);
        fits(names, "************", 0, 1, 2, 3, 4, 5);
        fits(names, "m.f", 0);
        fits(names, "m.*", 0, 1);
        fits(names, "m*", 0, 1, 2);
        fits(names, "*f", 0, 1, 2, 3);
        fits(names, "*.f", 0, 2, 3);
        fits(names, "?.f", 0, 3);
        fits(names, "???", 0, 3);
        fits(names, "????", 1, 2);
        fits(names, "?*?*?*?", 1, 2, 4, 5);
        fits(names, "m?*f", 0, 1, 2);
        fits(names, "m", new int[0]);
        fits(names, "f", new int[0]);
        fits(names, "m.fff", new int[0]);
        fits(names, ".", new int[0]);
        fits(names, "*.*.*", new int[0]);
        fits(names, "a*k", 4);
        fits(names, "abcdef.ghijk", 4);
        fits(names, "????????????", 4);
        fits(names, "*a*b*", 4, 5);
        fits(names, "a*a*b", 5);
        fits(names, "*ba*", 5);
        fits(names, "*ab", 5);
        fits(names, "*aba?ba?", 5);
        fits(names, "*aba?ba", new int[0]);
        fits(names, "*b*b*", 5);
        fits(names, "*b*b", 5);
        fits(names, "*b*b?", new int[0]);
    }

    private static void fits(String[] names, String pattern, int... fitting) {
        DESK.anew();
        for (String name : names) {
            DESK.method(name + "(0)=1");
        }
        DESK.command("monitor " + pattern, 0);
        int[] due = new int[names.length];
        for (int method : fitting) {
            due[method] = 1;
        }
        for (int method = 0; method < names.length; method++) {
            DESK.console.call(method, 0, 0, 0);
            DESK.due(pattern + " on " + names[method], DESK.console.counted(0, method, 0), due[method]);
        }
    }

    private static void limits() {
        DESK.anew();
        DESK.method("m.f(1)=a?m.f(a-1):0", 0);
        DESK.command("watch enter * a 1 3", 0);
        DESK.command("watch return * n", 1);
        DESK.call(0, 5, 0, 0, 0, 0);
        DESK.due("records", DESK.console.records(), 9);
        DESK.due("the job is no more", DESK.console.job(0, 0), 0);
        DESK.due("the other job", DESK.console.job(1, 1), 93);
        DESK.command("watch enter * k+50", 0);
        DESK.call(0, 0, 0, 0, 0, 0);
        DESK.record(9, 0, 0, 50, 0, 1);
        DESK.command("watch enter * !k 1 1", 2);
        DESK.call(0, 0, 0, 0, 0, 0);
        DESK.record(12, 2, 0, 0, 1, 1);
        DESK.due("an error is the last one too", DESK.console.job(2, 0), 0);
    }

    private static void fullList() {
        ProbeConsole x = DESK.anew().console;
        DESK.method("m.f(1)=a?m.f(a-1):0", 0);
        for (int j = 0; j < 4; j++) {
            DESK.command("watch enter * k", j);
        }
        for (int i = 0; i < 9; i++) {
            DESK.call(0, 7, 0, 0, 0, 0);
        }
        DESK.due("288 records", x.records(), 288);
        DESK.call(0, 7, 0, 0, 0, 0);
        DESK.due("300 records", x.records(), 300);
        DESK.due("the jobs know of more", x.job(0, 1), 19);
        DESK.record(299, 3, 0, 74, 0, 3);
        DESK.bounds("record 300", () -> x.record(300, 0));
        DESK.call(0, 7, 0, 0, 0, 0);
        DESK.call(0, 7, 0, 0, 0, 0);
        DESK.due("300 records still", x.records(), 300);
        DESK.record(0, 0, 0, 0, 0, 1);
        DESK.due("records left", x.job(3, 1), 3);
        DESK.call(0, 7, 0, 0, 0, 0);
        DESK.due("the limit ends a job with a full list too", x.job(3, 0), 0);
        DESK.command("watch enter * 5", 0);
        DESK.due("clear", x.clear(), 300);
        DESK.call(0, 0, 0, 0, 0, 0);
        DESK.due("a record behind clear", x.records(), 1);
        DESK.record(0, 0, 0, 5, 0, 1);
    }

    private static void clear() {
        ProbeConsole x = DESK.anew().console;
        DESK.method("m.f(1)=a", 0);
        DESK.command("watch enter * k 1 5", 0);
        DESK.command("keep *", 1);
        DESK.command("monitor *", 2);
        DESK.call(0, 1, 0, 0, 0, 1);
        DESK.call(0, 2, 0, 0, 0, 2);
        DESK.due("clear", x.clear(), 2);
        DESK.due("records", x.records(), 0);
        DESK.due("keeps", x.keeps(), 0);
        DESK.bounds("a cleared record", () -> x.record(0, 0));
        DESK.bounds("a cleared kept one", () -> x.kept(0, 0));
        DESK.bounds("a replay of a cleared one", () -> x.replay(0));
        DESK.due("the limit goes on", x.job(0, 1), 3);
        DESK.due("the counts go on", x.counted(2, 0, 0), 2);
        DESK.due("the value stays", x.value(), 2);
        DESK.call(0, 3, 0, 0, 0, 3);
        DESK.record(0, 0, 0, 2, 0, 1);
        DESK.kept(0, 1, 0, 3, 0, 0, 0, 3);
        DESK.due("clear again", x.clear(), 1);
        DESK.due("clear of nothing", x.clear(), 0);
    }

    private static void monitors() {
        ProbeConsole x = DESK.anew().console;
        DESK.method("m.f(1)=a>1?m.g(a)+m.f(a-1):0", 0);
        DESK.method("m.g(1)=a%2?a:m.h(a)#5", 1);
        DESK.method("m.h(1)=!a", 2);
        DESK.method("x.f(1)=m.f(a)", 3);
        DESK.command("monitor m.*", 0);
        DESK.command("monitor *.f", 1);
        DESK.call(3, 5, 0, 0, 0, 5 + 5 + 3 + 5);
        int[][] first = {{5, 5, 0}, {4, 4, 0}, {2, 0, 2}, {0, 0, 0}};
        int[][] second = {{5, 5, 0}, {0, 0, 0}, {0, 0, 0}, {1, 1, 0}};
        for (int m = 0; m < 4; m++) {
            for (int what = 0; what < 3; what++) {
                DESK.due("counted(0, " + m + ", " + what + ")", x.counted(0, m, what), first[m][what]);
                DESK.due("counted(1, " + m + ", " + what + ")", x.counted(1, m, what), second[m][what]);
            }
        }
        DESK.due("monitors make no records", x.records(), 0);
    }

    private static void monitorsBegin() {
        ProbeConsole x = DESK.anew().console;
        DESK.method("m.f(0)=1", 0);
        DESK.command("monitor *", 0);
        DESK.call(0, 0, 0, 0, 0, 1);
        DESK.command("monitor *", 1);
        DESK.call(0, 0, 0, 0, 0, 1);
        DESK.due("since the first command", x.counted(0, 0, 0), 2);
        DESK.due("since the second command", x.counted(1, 0, 0), 1);
        DESK.command("kill 0", 0);
        DESK.command("monitor *", 0);
        DESK.due("counts begin anew", x.counted(0, 0, 0), 0);
        DESK.command("reset", 2);
        DESK.command("monitor *", 0);
        DESK.command("monitor *", 1);
        DESK.due("counts begin anew behind reset", x.counted(1, 0, 1), 0);
        for (int i = 0; i < 12; i++) {
            DESK.command("reset", i == 0 ? 2 : 1);
            DESK.command("monitor *", 0);
            DESK.call(0, 0, 0, 0, 0, 1);
            DESK.due("each job counts for itself", x.counted(0, 0, 0), 1);
        }
    }

    private static void unseenInvocations() {
        ProbeConsole x = DESK.anew().console;
        DESK.method("m.deep(0)=m.deep()", 0);
        DESK.method("m.many(0)=m.many()+m.many()#1", 1);
        DESK.command("monitor *", 0);
        DESK.command("watch enter * n", 1);
        DESK.call(0, 0, 0, 0, 1, -2);
        DESK.due("invocations", x.counted(0, 0, 0), 10);
        DESK.due("returns", x.counted(0, 0, 1), 0);
        DESK.due("throws", x.counted(0, 0, 2), 10);
        DESK.due("records", x.records(), 10);
        DESK.record(9, 1, 0, 10, 0, 10);
        DESK.call(1, 0, 0, 0, 1, -3);
        DESK.due("invocations", x.counted(0, 1, 0), 1000);
        DESK.due("returns and throws", x.counted(0, 1, 1) + x.counted(0, 1, 2), 1000);
        DESK.due("throws", x.counted(0, 1, 2), 9);
    }

    private static void laterMethods() {
        ProbeConsole x = DESK.anew().console;
        DESK.command("monitor m.*", 0);
        DESK.command("watch enter *.g 4", 1);
        DESK.command("keep *.g", 2);
        DESK.bounds("counted of a method that isn't yet", () -> x.counted(0, 0, 0));
        DESK.method("m.f(0)=1", 0);
        DESK.method("m.g(0)=2", 1);
        DESK.method("x.g(0)=3", 2);
        for (int m = 0; m < 3; m++) {
            DESK.due("nothing counted yet", x.counted(0, m, 0), 0);
            x.call(m, 0, 0, 0);
            DESK.due("counted", x.counted(0, m, 0), m == 2 ? 0 : 1);
        }
        DESK.due("records", x.records(), 2);
        DESK.due("keeps", x.keeps(), 2);
    }

    private static void wrongRecords() {
        ProbeConsole x = DESK.anew().console;
        DESK.method("m.f(1)=a", 0);
        DESK.command("watch enter * a", 0);
        DESK.bounds("record of none", () -> x.record(0, 5));
        DESK.call(0, 7, 0, 0, 0, 7);
        int[] rows = {-1, 1, 299, 300, Integer.MIN_VALUE, Integer.MAX_VALUE};
        for (int i : rows) {
            DESK.bounds("record(" + i + ", 0)", () -> x.record(i, 0));
            DESK.bounds("record(" + i + ", 5)", () -> x.record(i, 5));
        }
        int[] whats = {-1, 5, Integer.MIN_VALUE, Integer.MAX_VALUE};
        for (int what : whats) {
            DESK.argument("record(0, " + what + ")", () -> x.record(0, what));
        }
        DESK.record(0, 0, 0, 7, 0, 1);
    }

    private static void wrongCounts() {
        ProbeConsole x = DESK.anew().console;
        DESK.method("m.f(1)=a", 0);
        DESK.command("monitor *", 0);
        DESK.command("keep *", 1);
        DESK.command("watch enter * a", 2);
        int[] jobs = {-1, 1, 2, 3, 7, 8, Integer.MIN_VALUE, Integer.MAX_VALUE};
        for (int j : jobs) {
            DESK.bounds("counted(" + j + ", 0, 0)", () -> x.counted(j, 0, 0));
            DESK.bounds("counted(" + j + ", 0, 3)", () -> x.counted(j, 0, 3));
        }
        int[] methods = {-1, 1, 15, 16, Integer.MIN_VALUE, Integer.MAX_VALUE};
        for (int m : methods) {
            DESK.bounds("counted(0, " + m + ", 0)", () -> x.counted(0, m, 0));
            DESK.bounds("counted(0, " + m + ", 3)", () -> x.counted(0, m, 3));
        }
        int[] whats = {-1, 3, Integer.MIN_VALUE, Integer.MAX_VALUE};
        for (int what : whats) {
            DESK.argument("counted(0, 0, " + what + ")", () -> x.counted(0, 0, what));
        }
        DESK.command("kill 0", 0);
        DESK.bounds("counted of a killed job", () -> x.counted(0, 0, 0));
    }
}
