/** The boundary cases of commands, faults and probes in the document's Terms: a test for each sentence. */
final class CommandEdgeTest {
    private static final Desk DESK = new Desk();

    public static void main(String[] args) {
        wordsWithBlanks();
        wordsThatAreNotTold();
        patternsUpToTwelve();
        starsAndQuestionMarks();
        jobsFrom0To7();
        theLeastFreeJob();
        watchesParts();
        limitsFrom1To99();
        numbersOfKill();
        reset();
        noNamesInCommands();
        variablesOfWatches();
        theFirstByteThatCantBe();
        faultsAtTheEnd();
        orderOfProbes();
        eachAndAllInvocations();
        conditions();
        errors();
        theLimitEndsAJob();
        monitorsSinceTheirCommand();
        fortyKept();
        DESK.end("CommandEdgeTest");
    }

    private static String times(String text, int n) {
        return text.repeat(n);
    }

    /** "COMMANDS are words with blanks between, before and behind". */
    private static void wordsWithBlanks() {
        DESK.anew();
        DESK.command("\0\u0001 watch\tenter\r\n*  a\u001f\u001fa>1 \t5 \n", 0);
        DESK.command("monitor\n\n*", 1);
        DESK.command("\nkeep\0*\0", 2);
        DESK.command("\tkill\t2\t", 2);
        DESK.command("\nreset\n", 2);
        DESK.badCommand("", 1, 0);
        DESK.badCommand(" ", 1, 1);
        DESK.badCommand(" \0\t\n ", 1, 5);
        DESK.badCommand("monitor*", 1, 0);
        DESK.badCommand("keep?", 1, 0);
        DESK.badCommand("kill0", 1, 0);
        DESK.badCommand("watchenter * a", 1, 0);
        DESK.badCommand("watch enter* a", 1, 6);
    }

    /** "1 ... a word ... that isn't one of those told (its first byte)". */
    private static void wordsThatAreNotTold() {
        String[] verbs = {"watch", "monitor", "keep", "kill", "reset"};
        String[] behind = {" enter * a", " *", " *", " 0", ""};
        for (int i = 0; i < verbs.length; i++) {
            DESK.anew();
            String verb = verbs[i];
            DESK.badCommand(verb + "s" + behind[i], 1, 0);
            DESK.badCommand("  " + verb.substring(1) + behind[i], 1, 2);
            DESK.badCommand(" " + verb.substring(0, verb.length() - 1) + behind[i], 1, 1);
            DESK.badCommand(verb.toUpperCase() + behind[i], 1, 0);
            DESK.badCommand(verb + "," + behind[i], 1, 0);
            DESK.badCommand("x" + verb.substring(1) + behind[i], 1, 0);
        }
        String[] points = {"enter", "return", "throw"};
        for (String point : points) {
            DESK.anew();
            DESK.badCommand("watch " + point + "s * a", 1, 6);
            DESK.badCommand("watch   " + point.substring(1) + " * a", 1, 8);
            DESK.badCommand("watch " + point.substring(0, point.length() - 1) + " * a", 1, 6);
            DESK.badCommand("watch " + point.toUpperCase() + " * a", 1, 6);
            DESK.badCommand("watch x" + point.substring(1) + " * a", 1, 6);
            DESK.badCommand(point + " * a", 1, 0);
            DESK.command("watch " + point + " * a", 0);
        }
    }

    /** "a PATTERN is a word of ...; up to 12"; "3 ... the 13th byte of a name or pattern". */
    private static void patternsUpToTwelve() {
        String[] twelve = {"abcdefghijkl", "a.cdefghijkl", "************", "????????????", "............", "*?*?*?*?*?*?"};
        String[] verbs = {"monitor ", "keep ", "watch throw "};
        for (String verb : verbs) {
            for (String pattern : twelve) {
                String rest = verb.equals("watch throw ") ? " x" : "";
                DESK.anew();
                DESK.command(verb + pattern + rest, 0);
                DESK.command(verb + pattern.substring(0, 11) + rest, 1);
                DESK.command(verb + pattern.charAt(0) + rest, 2);
                DESK.badCommand(verb + pattern + "a" + rest, 3, verb.length() + 12);
                DESK.badCommand(verb + pattern + "*.?" + rest, 3, verb.length() + 12);
                DESK.badCommand(verb + pattern + "-" + rest, 1, verb.length() + 12);
                DESK.badCommand(verb + pattern.substring(0, 11) + "-" + rest, 1, verb.length() + 11);
            }
            DESK.anew();
            DESK.badCommand(verb.trim(), 1, verb.length() - 1);
            DESK.badCommand(verb, 1, verb.length());
            DESK.badCommand(verb + "A", 1, verb.length());
            DESK.badCommand(verb + "7", 1, verb.length());
            DESK.badCommand(verb + "m.(", 1, verb.length() + 2);
        }
    }

    /** "* (any letters and points, also none) and ?, one of these". */
    private static void starsAndQuestionMarks() {
        DESK.anew();
        String[] names = {"a.b", "aa.b", "abcdefghij.k"};
        for (int i = 0; i < names.length; i++) {
            DESK.method(names[i] + "(0)=1", i);
        }
        fit("*", true, true, true);
        fit("*a.b", true, true, false);
        fit("a.b*", true, false, false);
        fit("a*.*b", true, true, false);
        fit("a**.**b", true, true, false);
        fit("a?b", true, false, false);
        fit("a?.b", false, true, false);
        fit("???", true, false, false);
        fit("????", false, true, false);
        fit("??", false, false, false);
        fit("????????????", false, false, true);
        fit("???????????", false, false, false);
        fit("?????????*??", false, false, true);
        fit("************", true, true, true);
        fit("*?*?*?*", true, true, true);
        fit("*?*?*?*?*", false, true, true);
        fit("a", false, false, false);
        fit("b", false, false, false);
        fit("a.", false, false, false);
        fit(".b", false, false, false);
        fit("*.", false, false, false);
        fit(".*", false, false, false);
        fit("*.*", true, true, true);
        fit("*..*", false, false, false);
        fit("*j*", false, false, true);
    }

    private static void fit(String pattern, boolean... due) {
        DESK.command("monitor " + pattern, 0);
        for (int method = 0; method < due.length; method++) {
            DESK.console.call(method, 0, 0, 0);
            DESK.due(pattern + " on " + method, DESK.console.counted(0, method, 0), due[method] ? 1 : 0);
        }
        DESK.command("kill 0", 0);
    }

    /** "They make JOBS 0 .. 7"; "5 ... no job is free". */
    private static void jobsFrom0To7() {
        DESK.anew();
        String[] commands = {"watch enter * a", "monitor *", "keep *"};
        for (int i = 0; i < 8; i++) {
            DESK.command(commands[i % 3], i);
        }
        DESK.badCommand("watch enter * a", 5, 15);
        DESK.badCommand("monitor *", 5, 9);
        DESK.badCommand("keep *  ", 5, 8);
        for (int i = 0; i < 8; i++) {
            DESK.due("kind of " + i, DESK.console.job(i, 0), i % 3 + 1);
        }
    }

    /** "the least free job's number". */
    private static void theLeastFreeJob() {
        DESK.anew();
        for (int i = 0; i < 8; i++) {
            DESK.command("keep *", i);
        }
        DESK.command("kill 6", 6);
        DESK.command("kill 0", 0);
        DESK.command("kill 3", 3);
        DESK.command("monitor *", 0);
        DESK.command("monitor *", 3);
        DESK.command("monitor *", 6);
        DESK.badCommand("monitor *", 5, 9);
        DESK.command("kill 7", 7);
        DESK.command("watch enter * 1", 7);
    }

    /** "watch, then enter, return or throw, a pattern, an expression, perhaps another one, and perhaps, behind that, a number". */
    private static void watchesParts() {
        String whole = "watch return m.* r a>1 5";
        int[] ends = {5, 12, 16};
        for (int end : ends) {
            DESK.anew();
            DESK.badCommand(whole.substring(0, end), 1, end);
            DESK.badCommand(whole.substring(0, end) + " ", 1, end + 1);
        }
        DESK.anew();
        DESK.command(whole.substring(0, 18), 0);
        DESK.command(whole.substring(0, 22), 1);
        DESK.command(whole, 2);
        DESK.badCommand(whole + " 6", 1, 25);
        DESK.badCommand(whole + "a", 1, 24);
        DESK.due("without a limit", DESK.console.job(0, 1), 99);
        DESK.due("without a limit", DESK.console.job(1, 1), 99);
        DESK.due("with a limit", DESK.console.job(2, 1), 5);
        // the first number behind the expression is a condition
        DESK.command("watch return m.* r 5", 3);
        DESK.due("a condition is no limit", DESK.console.job(3, 1), 99);
        DESK.command("watch return m.* r 0", 4);
        DESK.command("watch return m.* r 100", 5);
    }

    /** "a number 1 .. 99 (the LIMIT, 99 without)"; "2 a number that is too great (in commands above 99), or 0 as a limit". */
    private static void limitsFrom1To99() {
        DESK.anew();
        String[] good = {"1", "2", "98", "99", "01", "0099"};
        int[] limits = {1, 2, 98, 99, 1, 99};
        for (int i = 0; i < good.length; i++) {
            DESK.command("watch enter * a 1 " + good[i], i);
            DESK.due("limit " + good[i], DESK.console.job(i, 1), limits[i]);
        }
        String[] bad = {"0", "00", "100", "101", "0100", "2147483647", "2147483648", "4294967297", "18446744073709551617"};
        for (String limit : bad) {
            DESK.badCommand("watch enter * a 1 " + limit, 2, 18);
        }
        DESK.anew();
        DESK.badCommand("watch enter * a 1 0 0", 2, 18);
        DESK.badCommand("watch enter * a 1 100 0", 2, 18);
        DESK.badCommand("watch enter * a 1 99 0", 1, 21);
        DESK.badCommand("watch enter * a 1 -1", 1, 18);
        DESK.badCommand("watch enter * a 1 +1", 1, 18);
        DESK.badCommand("watch enter * a 1 (1)", 1, 18);
        DESK.badCommand("watch enter * a 1 n", 1, 18);
        DESK.badCommand("watch enter * a 1 1.", 1, 19);
    }

    /** "kill, and a number: the job is no more"; "5 ... there is no job with that number". */
    private static void numbersOfKill() {
        DESK.anew();
        for (int i = 0; i < 8; i++) {
            DESK.command("keep *", i);
        }
        DESK.badCommand("kill 8", 5, 6);
        DESK.badCommand("kill 9", 5, 6);
        DESK.badCommand("kill 99", 5, 7);
        DESK.badCommand("kill 100", 2, 5);
        DESK.badCommand("kill 4294967296", 2, 5);
        DESK.badCommand("kill 18446744073709551616", 2, 5);
        DESK.badCommand("kill", 1, 4);
        DESK.badCommand("kill -1", 1, 5);
        DESK.badCommand("kill *", 1, 5);
        DESK.badCommand("kill 1*", 1, 6);
        DESK.badCommand("kill 1 1", 1, 7);
        for (int i = 7; i >= 0; i--) {
            DESK.command("kill 0" + i, i);
            DESK.due("kind", DESK.console.job(i, 0), 0);
            DESK.badCommand("kill " + i + " ", 5, 7);
        }
    }

    /** "reset: none is." */
    private static void reset() {
        DESK.anew();
        DESK.command("reset", 0);
        for (int i = 0; i < 8; i++) {
            DESK.command("monitor *", i);
        }
        DESK.badCommand("reset 1", 1, 6);
        DESK.badCommand("reset *", 1, 6);
        DESK.command("reset", 8);
        for (int i = 0; i < 8; i++) {
            DESK.due("kind", DESK.console.job(i, 0), 0);
            DESK.badCommand("kill " + i, 5, 6);
        }
        DESK.command("reset", 0);
        DESK.command("monitor *", 0);
    }

    /** "These expressions have no names"; "4 ... a name in a command's expression (its first byte)". */
    private static void noNamesInCommands() {
        DESK.anew();
        DESK.method("m.f(0)=1", 0);
        DESK.badCommand("watch enter * m.f()", 4, 14);
        DESK.badCommand("watch enter * m.f", 4, 14);
        DESK.badCommand("watch enter * 1+(m.f(2", 4, 17);
        DESK.badCommand("watch enter * 1 m.f()", 4, 16);
        DESK.badCommand("watch enter * 1 1?x.y:2", 4, 18);
        DESK.badCommand("watch enter * mf()", 1, 14);
        DESK.badCommand("watch enter * a()", 1, 15);
    }

    /** "their variables are a, b, c (the parameters, 0 where there are none), r, x (both 0 at other points), n, k". */
    private static void variablesOfWatches() {
        String some = "a*16+b*8+c*4+r*2+x";
        ProbeConsole x = DESK.anew().console;
        DESK.method("m.f(1)=a=1?m.g(2,3):!7", 0);
        DESK.method("m.g(2)=a+b", 1);
        DESK.method("m.h(0)=m.f(1)", 2);
        DESK.command("watch enter * " + some, 0);
        DESK.command("watch return * " + some, 1);
        DESK.command("watch throw * " + some, 2);
        DESK.command("watch return * n*10+k", 3);
        DESK.call(2, 9, 9, 9, 0, 5);
        int[][] due = {{0, 2, 0, 0, 1}, {0, 0, 16, 0, 2}, {0, 1, 32 + 24, 0, 3},
            {1, 1, 32 + 24 + 10, 0, 3}, {3, 1, 30, 0, 3}, {1, 0, 16 + 10, 0, 2}, {3, 0, 21, 0, 2}, {1, 2, 10, 0, 1}, {3, 2, 12, 0, 1}};
        DESK.due("records", x.records(), due.length);
        for (int i = 0; i < due.length; i++) {
            DESK.record(i, due[i]);
        }
        DESK.due("clear", x.clear(), due.length);
        DESK.call(0, 4, 9, 9, 1, 7);
        DESK.due("records", x.records(), 2);
        DESK.record(0, 0, 0, 64, 0, 1);
        DESK.record(1, 2, 0, 64 + 7, 0, 1);
        DESK.call(1, 1, 1, 9, 0, 2);
        DESK.record(2, 0, 1, 16 + 8, 0, 1);
        DESK.record(3, 1, 1, 16 + 8 + 4, 0, 1);
        DESK.call(0, 4, 9, 9, 1, 7);
        DESK.record(6, 2, 0, 64 + 7, 0, 1);
    }

    /** "FAULTS, from the beginning on, the place of the first byte that can't be". */
    private static void theFirstByteThatCantBe() {
        DESK.anew();
        DESK.badMethod("mf(4)=b+2147483648", 1, 0);
        DESK.badMethod("m.f(4)=b+2147483648", 1, 4);
        DESK.badMethod("m.f(1)=b+2147483648", 4, 7);
        DESK.badMethod("m.f(1)=a+2147483648+b", 2, 9);
        DESK.badMethod("m.f(1)=a++2147483648", 1, 9);
        DESK.badMethod("m.f(1)=m.f(1,2,3,4)+b", 3, 17);
        DESK.badMethod("m.f(1)=b+m.f(1,2,3,4)", 4, 7);
        DESK.badMethod("m.f(1)=" + times("(", 13) + "b", 3, 19);
        DESK.badMethod("m.f(1)=" + times("(", 12) + "b", 4, 19);
        DESK.badMethod("m.f(1)=" + times("-", 20) + "1)", 3, 27);
        DESK.badMethod("m.f(1)=" + times("-", 19) + "1)", 1, 27);
        DESK.badCommand("watch leave M d 100", 1, 6);
        DESK.badCommand("watch enter M d 100", 1, 12);
        DESK.badCommand("watch enter * d 1 100", 4, 14);
        DESK.badCommand("watch enter * a d 100", 4, 16);
        DESK.badCommand("watch enter * a a 100 d", 2, 18);
        DESK.badCommand("watch enter * a a 10 d", 1, 21);
    }

    /** "At the end, at the tape's length: 5", behind all others. */
    private static void faultsAtTheEnd() {
        DESK.anew();
        DESK.method("m.f(0)=1", 0);
        DESK.badMethod("m.f(0)=1", 5, 8);
        DESK.badMethod("m.f(0)=1+1*(3)", 5, 14);
        DESK.badMethod("m.f(0)=1 ", 1, 8);
        DESK.badMethod("m.f(0)=a", 4, 7);
        DESK.badCommand("kill 3", 5, 6);
        DESK.badCommand("kill 3   ", 5, 9);
        DESK.badCommand("  kill 3", 5, 8);
        DESK.badCommand("kill 3 x", 1, 7);
        for (int i = 0; i < 8; i++) {
            DESK.command("keep *", i);
        }
        DESK.badCommand("watch enter m.* a  ", 5, 19);
        DESK.badCommand("watch enter m.* d  ", 4, 16);
        DESK.badCommand("watch enter m.* a 1 0", 2, 20);
    }

    /** "PROBES, in the order of their jobs' numbers". */
    private static void orderOfProbes() {
        DESK.anew();
        DESK.method("m.f(0)=1", 0);
        DESK.command("watch return * 10", 0);
        DESK.command("watch enter * 11", 1);
        DESK.command("watch return * 12", 2);
        DESK.command("watch enter * 13", 3);
        DESK.command("kill 1", 1);
        DESK.command("watch return * 14", 1);
        DESK.call(0, 0, 0, 0, 0, 1);
        int[] jobs = {3, 0, 1, 2};
        int[] values = {13, 10, 14, 12};
        for (int i = 0; i < jobs.length; i++) {
            DESK.record(i, jobs[i], 0, values[i], 0, 1);
        }
    }

    /** "of each invocation called from outside or within one such, whose method's name fits the pattern". */
    private static void eachAndAllInvocations() {
        ProbeConsole x = DESK.anew().console;
        DESK.method("m.f(1)=a?m.g(a)+x.h():0", 0);
        DESK.method("m.g(1)=m.f(a-1)", 1);
        DESK.method("m.f(0)=m.f(2)", 2);
        DESK.method("x.h(0)=1", 3);
        DESK.command("monitor m.f", 0);
        DESK.command("watch enter x.* n", 1);
        DESK.call(2, 0, 0, 0, 0, 2);
        DESK.due("m.f of one", x.counted(0, 0, 0), 3);
        DESK.due("m.g", x.counted(0, 1, 0), 0);
        DESK.due("m.f of none", x.counted(0, 2, 0), 1);
        DESK.due("x.h", x.counted(0, 3, 0), 0);
        DESK.due("records", x.records(), 2);
        DESK.record(0, 1, 3, 5, 0, 5);
        DESK.record(1, 1, 3, 3, 0, 3);
        // a method may come behind the command whose pattern it fits
        DESK.method("m.f(3)=x.i()", 4);
        DESK.method("x.i(0)=1", 5);
        DESK.due("nothing of it yet", x.counted(0, 4, 0), 0);
        DESK.call(4, 0, 0, 0, 0, 1);
        DESK.due("m.f of three", x.counted(0, 4, 1), 1);
        DESK.record(2, 1, 5, 2, 0, 2);
    }

    /** "if the condition is there and is 0, nothing". */
    private static void conditions() {
        ProbeConsole x = DESK.anew().console;
        DESK.method("m.f(1)=a", 0);
        DESK.command("watch enter * 10 a", 0);
        DESK.command("watch enter * !11 a", 1);
        DESK.command("watch enter * 12 0", 2);
        DESK.command("watch enter * 0", 3);
        DESK.command("watch enter * k k=0 2", 4);
        DESK.call(0, 0, 0, 0, 0, 0);
        DESK.due("records", x.records(), 2);
        DESK.record(0, 3, 0, 0, 0, 1);
        DESK.record(1, 4, 0, 0, 0, 1);
        DESK.call(0, -5, 0, 0, 0, -5);
        DESK.due("records", x.records(), 5);
        DESK.record(2, 0, 0, 10, 0, 1);
        DESK.record(3, 1, 0, 11, 1, 1);
        DESK.record(4, 3, 0, 0, 0, 1);
        DESK.due("nothing doesn't count", x.job(2, 1), 99);
        DESK.due("nothing doesn't count", x.job(4, 1), 1);
    }

    /** "if it throws, or else the expression does, a RECORD with that as an ERROR; else one with the expression's value". */
    private static void errors() {
        ProbeConsole x = DESK.anew().console;
        DESK.method("m.f(1)=a", 0);
        DESK.command("watch enter * a/0", 0);
        DESK.command("watch enter * !5 a/0", 1);
        DESK.command("watch enter * 5 !0", 2);
        DESK.command("watch enter * !0 1", 3);
        DESK.command("watch enter * !3#4 !0#1", 4);
        DESK.command("watch return * !r 1 1", 5);
        DESK.call(0, 8, 0, 0, 0, 8);
        int[][] due = {{0, 0, -1, 1, 1}, {1, 0, -1, 1, 1}, {2, 0, 0, 1, 1}, {3, 0, 0, 1, 1}, {4, 0, 4, 0, 1}, {5, 0, 8, 1, 1}};
        DESK.due("records", x.records(), due.length);
        for (int i = 0; i < due.length; i++) {
            DESK.record(i, due[i]);
        }
        DESK.due("an error counts", x.job(0, 1), 98);
        DESK.due("an error counts to the limit", x.job(5, 0), 0);
        // what a probe throws ends nothing of the invocation that it looks at
        DESK.anew();
        DESK.method("m.f(1)=1000+m.g(a)*(2+m.g(a+1))", 0);
        DESK.method("m.g(1)=a?100/a:5#7", 1);
        DESK.command("watch enter * 1+(2+(3*!4))", 0);
        DESK.command("watch return * a 1+(2+(3*!5))", 1);
        DESK.call(0, 4, 0, 0, 0, 1000 + 25 * 22);
        DESK.call(0, -1, 0, 0, 0, 1000 - 100 * 7);
        DESK.record(0, 0, 0, 4, 1, 1);
        DESK.record(2, 1, 1, 5, 1, 2);
    }

    /** "With as many records as the limit the job is no more." */
    private static void theLimitEndsAJob() {
        ProbeConsole x = DESK.anew().console;
        DESK.method("m.f(1)=a?m.f(a-1):0", 0);
        DESK.command("watch enter * k 1 3", 0);
        DESK.command("watch enter * n 1 1", 1);
        DESK.command("watch return * n", 2);
        DESK.call(0, 1, 0, 0, 0, 0);
        DESK.due("one record is left", x.job(0, 1), 1);
        DESK.due("the job of one record", x.job(1, 0), 0);
        DESK.call(0, 1, 0, 0, 0, 0);
        DESK.due("none is left", x.job(0, 1), 0);
        DESK.due("the job is no more", x.job(0, 0), 0);
        DESK.due("records", x.records(), 3 + 1 + 4);
        DESK.badCommand("kill 0", 5, 6);
        DESK.command("reset", 1);
        // a watch without a limit has 99
        DESK.command("watch enter * k", 0);
        for (int i = 0; i < 9; i++) {
            DESK.call(0, 9, 0, 0, 0, 0);
        }
        DESK.due("ninety of 99", x.job(0, 1), 9);
        DESK.call(0, 7, 0, 0, 0, 0);
        DESK.due("one is left", x.job(0, 1), 1);
        DESK.due("it is a watch", x.job(0, 0), 1);
        DESK.call(0, 9, 0, 0, 0, 0);
        DESK.due("it is no more", x.job(0, 0), 0);
        DESK.due("records", x.records(), 8 + 99);
        DESK.record(106, 0, 0, 98, 0, 1);
        eachJobIsNew();
    }

    /** A job has nothing of those that had its number before, nor of faulty commands. */
    private static void eachJobIsNew() {
        ProbeConsole x = DESK.anew().console;
        DESK.method("m.f(0)=1", 0);
        for (int i = 0; i < 6; i++) {
            DESK.badCommand("watch enter * !1 0 0", 2, 19);
            DESK.badCommand("watch enter * !1 !2 5 6", 1, 22);
            DESK.command("watch enter * 40+(!1#10)+k" + (i % 2 == 0 ? " 0+(!1#2)=2" : ""), 0);
            DESK.call(0, 0, 0, 0, 0, 1);
            DESK.record(2 * i, 0, 0, 50, 0, 1);
            DESK.due("the others' limits are not its own", x.job(0, 1), 98);
            DESK.command("kill 0", 0);
            DESK.command("watch enter x.* 1 0 3", 0);
            DESK.command("watch enter * 60+k 1 1", 1);
            DESK.call(0, 0, 0, 0, 0, 1);
            DESK.record(2 * i + 1, 1, 0, 60, 0, 1);
            DESK.command("reset", 1);
        }
        DESK.due("records", x.records(), 12);
    }

    /** "monitor counts invocations, returns and throws, by methods, since its command." */
    private static void monitorsSinceTheirCommand() {
        ProbeConsole x = DESK.anew().console;
        DESK.method("m.f(1)=a?a:!1", 0);
        DESK.method("m.f(0)=m.f(0)#m.f(1)", 1);
        DESK.call(1, 0, 0, 0, 0, 1);
        DESK.command("monitor *", 0);
        int[][] due = {{0, 0, 0}, {0, 0, 0}};
        for (int turn = 0; turn < 3; turn++) {
            for (int method = 0; method < 2; method++) {
                for (int what = 0; what < 3; what++) {
                    DESK.due("counted(0, " + method + ", " + what + ")", x.counted(0, method, what), turn * due[method][what]);
                }
            }
            due = new int[][] {{2, 1, 1}, {1, 1, 0}};
            DESK.call(1, 0, 0, 0, 0, 1);
        }
        DESK.command("kill 0", 0);
        DESK.command("monitor *", 0);
        DESK.due("since the new command", x.counted(0, 0, 0), 0);
    }

    /** "keep lists behind the body what came and went, 40 in all (since clear())." */
    private static void fortyKept() {
        ProbeConsole x = DESK.anew().console;
        DESK.method("m.f(1)=a", 0);
        DESK.command("keep *", 0);
        DESK.command("keep m.?", 1);
        for (int i = 0; i < 19; i++) {
            DESK.call(0, i, 0, 0, 0, i);
        }
        DESK.command("keep *", 2);
        DESK.due("keeps", x.keeps(), 38);
        DESK.call(0, 77, 0, 0, 0, 77);
        DESK.due("forty of all jobs together", x.keeps(), 40);
        DESK.kept(38, 0, 0, 77, 0, 0, 0, 77);
        DESK.kept(39, 1, 0, 77, 0, 0, 0, 77);
        DESK.call(0, 78, 0, 0, 0, 78);
        DESK.due("forty still", x.keeps(), 40);
        DESK.kept(39, 1, 0, 77, 0, 0, 0, 77);
        DESK.kept(0, 0, 0, 0, 0, 0, 0, 0);
        x.clear();
        DESK.call(0, 79, 0, 0, 0, 79);
        DESK.due("anew", x.keeps(), 3);
        DESK.kept(2, 2, 0, 79, 0, 0, 0, 79);
    }
}
