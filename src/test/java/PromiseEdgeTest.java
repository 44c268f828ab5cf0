import java.util.function.IntSupplier;

/** The boundary cases that the document's first sentences and the promises 1 to 18 name: a test for each sentence, in the document's order. */
final class PromiseEdgeTest {
    private static final Desk DESK = new Desk();
    private static final int MIN = Integer.MIN_VALUE;
    private static final int MAX = Integer.MAX_VALUE;

    public static void main(String[] args) {
        asItWasAtThatMoment();
        the512thCall();
        newObject();
        lowestBytesFirst();
        moreThan200();
        notOneToEight();
        wipe();
        methodNumbers();
        faultyMethodsAddNothing();
        commandAnswers();
        faultyCommandsAddNothing();
        faultAndPlace();
        asManyAsItHas();
        returnedOrThrew();
        noSuchMethod();
        valueOfTheLast();
        invokedOfTheLast();
        threeHundredRecords();
        cellsOfRecords();
        noSuchRecord();
        clear();
        job();
        noSuchJob();
        counted();
        noSuchCount();
        keeps();
        cellsOfKept();
        noSuchKept();
        replay();
        replayIsUnseen();
        replayFromOutside();
        noSuchReplay();
        theOneNamedFirst();
        whatThrowsChangesNothing();
        DESK.end("PromiseEdgeTest");
    }

    private static final int[] NOT_ONE_TO_EIGHT = {0, 9, -1, -8, 10, 16, 256, 257, MIN, MIN + 1, MAX};

    /** "what the probes see comes to a list, as it was at just that moment". */
    private static void asItWasAtThatMoment() {
        ProbeConsole x = DESK.anew().console;
        DESK.method("m.f(1)=a?m.f(a-1)*2:1", 0);
        DESK.command("watch enter * a*100+n*10+k", 0);
        DESK.command("watch return * r*100+n*10+k", 1);
        DESK.command("keep *", 2);
        DESK.call(0, 2, 0, 0, 0, 4);
        int[] values = {210, 121, 32, 130, 221, 412};
        for (int turn = 0; turn < 2; turn++) {
            for (int i = 0; i < values.length; i++) {
                DESK.record(i, i / 3, 0, values[i], 0, i < 3 ? i + 1 : 6 - i);
            }
            for (int i = 0; i < 3; i++) {
                DESK.kept(i, 2, 0, i, 0, 0, 0, 1 << i);
            }
            // nothing that comes later changes what was seen
            DESK.call(0, 9, 0, 0, 0, 512);
            DESK.command("reset", turn == 0 ? 3 : 1);
            DESK.command("watch enter * 7", 0);
        }
        DESK.due("records", x.records(), 6 + 20 + 10);
    }

    /** "An object is used for at most 512 calls after it has been made": the last one is answered as any other. */
    private static void the512thCall() {
        ProbeConsole x = new ProbeConsole();
        String[] texts = {"m.f(1)=m.f(a)+m.f(a)#a", "monitor *", "keep *", "watch enter * a n>8"};
        int used = 0;
        for (int i = 0; i < texts.length; i++) {
            x.wipe();
            for (int k = 0; k < texts[i].length(); k++) {
                x.feed(1, texts[i].charAt(k));
            }
            DESK.due(texts[i], i == 0 ? x.method() : x.command(), i == 0 ? 0 : i - 1);
            used += 2 + texts[i].length();
        }
        int calls = 509 - used;
        for (int i = 0; i < calls; i++) {
            DESK.due("each call is stopped", x.call(0, i, 0, 0), 1);
        }
        DESK.due("the 510th", x.invoked(), 1000);
        DESK.due("the 511th", x.counted(0, 0, 0), 1000 * calls);
        DESK.due("the 512th", x.call(0, 5, 0, 0), 1);
    }

    /** Promise 1: "No methods, jobs, records; nothing kept; an empty tape." */
    private static void newObject() {
        ProbeConsole x = DESK.anew().console;
        for (int i = 0; i < 16; i++) {
            int method = i;
            DESK.bounds("no method " + i, () -> x.call(method, 0, 0, 0));
        }
        for (int i = 0; i < 8; i++) {
            DESK.due("no job " + i, x.job(i, 0), 0);
        }
        DESK.due("no records", x.records(), 0);
        DESK.due("nothing kept", x.keeps(), 0);
        DESK.due("an empty tape", x.feed(1, 'a'), 1);
        DESK.due("an empty tape", x.wipe(), 1);
        DESK.command("reset", 0);
        DESK.method("m.f(0)=1", 0);
        // two objects have nothing in common
        ProbeConsole other = DESK.anew().console;
        DESK.bounds("no method", () -> other.call(0, 0, 0, 0));
        DESK.due("its tape", other.wipe(), 0);
        DESK.due("the first one's tape", x.wipe(), 8);
        DESK.due("the first one's method", x.call(0, 0, 0, 0), 0);
        DESK.due("its own value", other.value(), 0);
        DESK.due("its own invocations", other.invoked(), 0);
    }

    /** Promise 2: "The n lowest bytes of a long, the lowest first, come behind the tape." */
    private static void lowestBytesFirst() {
        String text = "keep m.f ";
        for (int n = 1; n <= 8; n++) {
            ProbeConsole x = DESK.anew().console;
            int fed = 0;
            for (int at = 0; at < text.length(); at += n) {
                int count = Math.min(n, text.length() - at);
                long word = count == 8 ? 0 : -1L << 8 * count;
                for (int k = 0; k < count; k++) {
                    word |= (long) text.charAt(at + k) << 8 * k;
                }
                fed += count;
                DESK.due("feed(" + count + ")", x.feed(count, word), fed);
            }
            DESK.due("keep fed by " + n, x.command(), 0);
            DESK.due("its fault", x.fault(), 0);
        }
        // a byte of 128 and more is no blank, and spoils none behind it
        ProbeConsole x = DESK.anew().console;
        x.feed(8, 0x2a20207065656bffL);
        DESK.due("a high byte before", x.command(), -1);
        DESK.due("its place", x.place(), 0);
        x.wipe();
        x.feed(7, 0x2a20207065656bL);
        x.feed(1, 0x80);
        DESK.due("a high byte behind", x.command(), -1);
        DESK.due("its place", x.place(), 7);
    }

    /** Promise 2: "Answers how many it has; NONE when there would be more than 200." */
    private static void moreThan200() {
        for (int n = 1; n <= 8; n++) {
            for (int room = 0; room <= 8; room++) {
                ProbeConsole x = DESK.anew().console;
                for (int i = 0; i < 24; i++) {
                    x.feed(8, 0);
                }
                for (int i = 0; i < 8 - room; i++) {
                    x.feed(1, 0);
                }
                int due = n <= room ? 200 - room + n : -1;
                DESK.due("feed(" + n + ") with room for " + room, x.feed(n, -1), due);
                DESK.due("the tape behind it", x.wipe(), due == -1 ? 200 - room : due);
            }
        }
    }

    /** Promise 2: "IllegalArgumentException: n is not 1 to 8." */
    private static void notOneToEight() {
        ProbeConsole x = DESK.anew().console;
        for (int n : NOT_ONE_TO_EIGHT) {
            DESK.argument("feed(" + n + ")", () -> x.feed(n, 0));
        }
        for (int i = 0; i < 25; i++) {
            x.feed(8, 0);
        }
        for (int n : NOT_ONE_TO_EIGHT) {
            DESK.argument("feed(" + n + ") to a full tape", () -> x.feed(n, 0));
        }
        DESK.due("the tape", x.wipe(), 200);
    }

    /** Promise 3: "The tape is empty then. Answers how many bytes it had." */
    private static void wipe() {
        ProbeConsole x = DESK.anew().console;
        DESK.due("wipe of none", x.wipe(), 0);
        x.feed(1, 'r');
        DESK.due("wipe of one", x.wipe(), 1);
        DESK.add("reset");
        DESK.due("what is fed behind a wipe", x.command(), 0);
        DESK.due("wipe of five", x.wipe(), 5);
        DESK.due("an empty tape is no command", x.command(), -1);
        DESK.due("its place", x.place(), 0);
        for (int i = 0; i < 25; i++) {
            x.feed(8, 0);
        }
        DESK.due("wipe of 200", x.wipe(), 200);
        DESK.due("room again", x.feed(8, 0), 8);
    }

    /** Promise 4: "A method more, told by the tape (which stays). Answers its number, from 0 on". */
    private static void methodNumbers() {
        ProbeConsole x = DESK.anew().console;
        DESK.method("m.f(0)=5", 0);
        DESK.due("the tape stays", x.feed(1, '1'), 9);
        DESK.due("the same name again", x.method(), -1);
        DESK.due("its fault", x.fault(), 5);
        DESK.due("the tape stays", x.wipe(), 9);
        DESK.method("m.g(0)=6", 1);
        DESK.method("m.h(0)=7", 2);
        for (int i = 0; i < 3; i++) {
            DESK.call(i, 0, 0, 0, 0, 5 + i);
        }
    }

    /** Promise 4: "NONE when there is a fault.", and such a one is no method. */
    private static void faultyMethodsAddNothing() {
        ProbeConsole x = DESK.anew().console;
        DESK.method("m.f(1)=a+1", 0);
        DESK.badMethod("m.f(1)=a+2+", 1, 11);
        DESK.badMethod("m.g(0)=!5#7+b", 4, 12);
        DESK.badMethod("m.f(1)=a+3", 5, 10);
        DESK.bounds("a faulty one can't be called", () -> x.call(1, 0, 0, 0));
        DESK.call(0, 40, 0, 0, 0, 41);
        DESK.badMethod("m.g(0)=!5+1+", 1, 12);
        DESK.badMethod("m.f(1)=!5+1+1", 5, 13);
        DESK.method("m.g(0)=10+(!1#m.f(1))*3", 1);
        DESK.call(1, 0, 0, 0, 0, 16);
    }

    /** Promise 5: "Answers the job's number (watch, monitor, keep, kill), or how many jobs there were (reset)". */
    private static void commandAnswers() {
        ProbeConsole x = DESK.anew().console;
        DESK.command("watch enter * a", 0);
        DESK.due("the tape stays", x.command(), 1);
        DESK.due("the tape stays", x.wipe(), 15);
        DESK.command("monitor *", 2);
        DESK.command("keep *", 3);
        DESK.command("kill 2", 2);
        DESK.due("the tape stays", x.command(), -1);
        DESK.due("its fault", x.fault(), 5);
        DESK.command("reset", 3);
        DESK.due("the tape stays", x.command(), 0);
        DESK.due("the tape stays", x.wipe(), 5);
    }

    /** Promise 5: "NONE when there is a fault.", and such a one changes no job. */
    private static void faultyCommandsAddNothing() {
        ProbeConsole x = DESK.anew().console;
        DESK.method("m.f(1)=a", 0);
        DESK.command("watch enter m.* a*2 a>1 9", 0);
        DESK.command("monitor m.*", 1);
        DESK.command("keep m.*", 2);
        String[] faulty = {"watch throw x.* 7 0 8 9", "watch return x.* !7 0 0", "monitor x x", "keep x,", "kill 0 1", "kill 1x", "kill 100",
            "kill 3", "reset x", "reset0", ""};
        for (String text : faulty) {
            DESK.due("command " + text, DESK.command(text), -1);
        }
        int[] kinds = {1, 2, 3, 0, 0, 0, 0, 0};
        for (int i = 0; i < 8; i++) {
            DESK.due("kind of " + i, x.job(i, 0), kinds[i]);
        }
        DESK.call(0, 3, 0, 0, 0, 3);
        DESK.call(0, 1, 0, 0, 0, 1);
        DESK.due("records", x.records(), 1);
        DESK.record(0, 0, 0, 6, 0, 1);
        DESK.due("records left", x.job(0, 1), 8);
        DESK.due("counted", x.counted(1, 0, 1), 2);
        DESK.due("keeps", x.keeps(), 2);
    }

    /** Promises 6 and 7: "the last method() or command()", "0 when it met none, or there was none", "NONE when there is none". */
    private static void faultAndPlace() {
        ProbeConsole x = DESK.anew().console;
        state(x, 0, -1);
        x.wipe();
        x.feed(1, 'x');
        x.clear();
        state(x, 0, -1);
        DESK.badMethod("m.f(0)=x", 4, 7);
        DESK.method("m.f(0)=1", 0);
        DESK.badMethod("m.f(0)=1", 5, 8);
        DESK.command("keep *", 0);
        DESK.badCommand("kill 100", 2, 5);
        DESK.method("m.g(0)=1", 1);
        DESK.badMethod("m.h(0)=m.h(1,2,3,4)", 3, 17);
        DESK.badCommand("kip", 1, 0);
        x.wipe();
        x.feed(2, 0);
        x.call(0, 0, 0, 0);
        x.replay(0);
        x.clear();
        DESK.bounds("a call that throws", () -> x.call(9, 0, 0, 0));
        state(x, 1, 0);
        DESK.command("reset", 1);
        state(x, 0, -1);
    }

    private static void state(ProbeConsole x, int fault, int place) {
        DESK.due("fault", x.fault(), fault);
        DESK.due("place", x.place(), place);
    }

    /** Promise 8: "with as many of the numbers as it has parameters". */
    private static void asManyAsItHas() {
        ProbeConsole x = DESK.anew().console;
        DESK.method("m.f(0)=5", 0);
        DESK.method("m.f(1)=a", 1);
        DESK.method("m.f(2)=a*10+b", 2);
        DESK.method("m.f(3)=a*100+b*10+c", 3);
        DESK.command("keep *", 0);
        DESK.command("watch return * a*100+b*10+c", 1);
        int[] values = {5, 1, 12, 123};
        int[] seen = {0, 100, 120, 123};
        for (int i = 3; i >= 0; i--) {
            DESK.call(i, 1, 2, 3, 0, values[i]);
            DESK.kept(3 - i, 0, i, i > 0 ? 1 : 0, i > 1 ? 2 : 0, i > 2 ? 3 : 0, 0, values[i]);
            DESK.record(3 - i, 1, i, seen[i], 0, 1);
        }
        DESK.due("keeps", x.keeps(), 4);
    }

    /** Promise 8: "Answers 0 if it returned, 1 if it threw." */
    private static void returnedOrThrew() {
        DESK.anew();
        DESK.method("m.f(2)=a/b", 0);
        DESK.method("m.g(1)=!a", 1);
        DESK.method("m.h(1)=m.g(a)#a", 2);
        DESK.call(0, 6, 3, 0, 0, 2);
        DESK.call(0, -6, 6, 0, 0, -1);
        DESK.call(0, 6, 0, 0, 1, -1);
        DESK.call(1, 0, 0, 0, 1, 0);
        DESK.call(1, MIN, 0, 0, 1, MIN);
        DESK.call(2, 1, 0, 0, 0, 1);
        DESK.call(2, 0, 0, 0, 0, 0);
    }

    /** Promise 8: "IndexOutOfBoundsException: there is no such method." */
    private static void noSuchMethod() {
        ProbeConsole x = DESK.anew().console;
        DESK.bounds("call(0) of none", () -> x.call(0, 0, 0, 0));
        DESK.method("m.f(0)=1", 0);
        DESK.method("m.g(0)=2", 1);
        int[] none = {-1, 2, 3, 15, 16, 17, MIN, MAX};
        for (int method : none) {
            DESK.bounds("call(" + method + ")", () -> x.call(method, 1, 2, 3));
        }
        DESK.call(1, 0, 0, 0, 0, 2);
    }

    /** Promise 9: "What the last call() or replay() returned, or threw; 0 before." */
    private static void valueOfTheLast() {
        ProbeConsole x = DESK.anew().console;
        DESK.due("before", x.value(), 0);
        DESK.method("m.f(1)=a>9?!a:a", 0);
        DESK.command("keep *", 0);
        DESK.due("before", x.value(), 0);
        DESK.call(0, 5, 0, 0, 0, 5);
        DESK.call(0, 12, 0, 0, 1, 12);
        DESK.due("replay", x.replay(0), 0);
        DESK.due("of the replay", x.value(), 5);
        DESK.due("replay", x.replay(1), 1);
        DESK.due("of the replay", x.value(), 12);
        DESK.method("m.g(0)=3", 1);
        DESK.command("reset", 1);
        x.clear();
        DESK.due("other calls leave it", x.value(), 12);
    }

    /** Promise 10: "How many invocations the last call() or replay() made, 1000 at most; 0 before." */
    private static void invokedOfTheLast() {
        ProbeConsole x = DESK.anew().console;
        DESK.due("before", x.invoked(), 0);
        DESK.method("m.f(1)=a?m.f(a-1)+m.f(a-1):0", 0);
        DESK.method("m.g(0)=m.f(9)+m.f(9)", 1);
        DESK.command("keep m.g", 0);
        DESK.call(0, 0, 0, 0, 0, 0);
        DESK.due("one", x.invoked(), 1);
        DESK.call(0, 8, 0, 0, 0, 0);
        DESK.due("511", x.invoked(), 511);
        DESK.call(0, 9, 0, 0, 1, -3);
        DESK.due("1000 at most", x.invoked(), 1000);
        DESK.call(1, 0, 0, 0, 1, -2);
        DESK.due("ten deep", x.invoked(), 10);
        DESK.call(0, 1, 0, 0, 0, 0);
        DESK.due("three", x.invoked(), 3);
        DESK.due("replay", x.replay(0), 1);
        DESK.due("ten deep once more", x.invoked(), 10);
        DESK.bounds("no such method", () -> x.call(2, 0, 0, 0));
        x.clear();
        DESK.due("other calls leave it", x.invoked(), 10);
    }

    /** Promise 11: "How many records there are, 300 at most: the first ones (since clear()) are kept, of others the jobs alone know." */
    private static void threeHundredRecords() {
        ProbeConsole x = DESK.anew().console;
        DESK.method("m.f(1)=a?m.f(a-1):0", 0);
        for (int j = 0; j < 4; j++) {
            DESK.command("watch enter * " + j + "*1000+k", j);
        }
        for (int i = 0; i < 7; i++) {
            DESK.call(0, 9, 0, 0, 0, 0);
            DESK.due("records", x.records(), 40 * i + 40);
        }
        DESK.call(0, 3, 0, 0, 0, 0);
        DESK.due("records", x.records(), 296);
        DESK.call(0, 0, 0, 0, 0, 0);
        DESK.due("300", x.records(), 300);
        DESK.call(0, 9, 0, 0, 0, 0);
        DESK.due("300 at most", x.records(), 300);
        for (int j = 0; j < 4; j++) {
            DESK.due("the jobs know", x.job(j, 1), 99 - 85);
        }
        DESK.record(0, 0, 0, 0, 0, 1);
        DESK.record(299, 3, 0, 3074, 0, 1);
        DESK.call(0, 9, 0, 0, 0, 0);
        DESK.call(0, 2, 0, 0, 0, 0);
        DESK.due("one left", x.job(0, 1), 1);
        DESK.due("clear", x.clear(), 300);
        DESK.call(0, 9, 0, 0, 0, 0);
        DESK.due("no job is left", x.job(0, 0) + x.job(1, 0) + x.job(2, 0) + x.job(3, 0), 0);
        DESK.due("the last records", x.records(), 4);
        DESK.record(2, 2, 0, 2098, 0, 1);
    }

    /** Promise 12: "the job, the method, the value or what was thrown, 1 if it is an error, else 0, the depth". */
    private static void cellsOfRecords() {
        DESK.anew();
        DESK.method("m.f(1)=m.g(a)", 0);
        DESK.method("m.g(1)=a", 1);
        DESK.command("monitor *", 0);
        DESK.command("watch enter m.g 100/a", 1);
        DESK.call(0, 7, 0, 0, 0, 7);
        DESK.call(1, 0, 0, 0, 0, 0);
        DESK.call(0, 0, 0, 0, 0, 0);
        DESK.record(0, 1, 1, 14, 0, 2);
        DESK.record(1, 1, 1, -1, 1, 1);
        DESK.record(2, 1, 1, -1, 1, 2);
        // a record stays as it was at just that moment
        DESK.command("kill 1", 1);
        DESK.command("watch enter m.f 5", 1);
        DESK.call(0, 7, 0, 0, 0, 7);
        DESK.record(0, 1, 1, 14, 0, 2);
        DESK.record(3, 1, 0, 5, 0, 1);
        DESK.command("reset", 2);
        DESK.due("records of jobs that are no more", DESK.console.records(), 4);
        DESK.record(2, 1, 1, -1, 1, 2);
    }

    /** Promise 12: "IndexOutOfBoundsException: there is none. IllegalArgumentException: another what." */
    private static void noSuchRecord() {
        ProbeConsole x = DESK.anew().console;
        DESK.method("m.f(0)=1", 0);
        DESK.command("watch enter * 5", 0);
        DESK.bounds("record(0, 0) of none", () -> x.record(0, 0));
        x.call(0, 0, 0, 0);
        x.call(0, 0, 0, 0);
        outside("record", 2, 5, x::record);
        x.clear();
        DESK.bounds("record(0, 0) behind clear", () -> x.record(0, 0));
    }

    /** Promise 13: "There are no records, and nothing is kept ...; the jobs, their k and limits go on. Answers how many records". */
    private static void clear() {
        ProbeConsole x = DESK.anew().console;
        DESK.due("of nothing", x.clear(), 0);
        DESK.method("m.f(0)=1", 0);
        DESK.command("watch enter * k 1 4", 0);
        DESK.command("monitor *", 1);
        DESK.command("keep *", 2);
        DESK.command("watch throw * x", 3);
        for (int i = 0; i < 3; i++) {
            x.call(0, 0, 0, 0);
        }
        DESK.due("records", x.clear(), 3);
        DESK.due("no records", x.records(), 0);
        DESK.due("nothing is kept", x.keeps(), 0);
        DESK.bounds("no record", () -> x.record(0, 0));
        DESK.bounds("nothing kept", () -> x.kept(0, 0));
        DESK.due("again", x.clear(), 0);
        int[] kinds = {1, 2, 3, 1, 0, 0, 0, 0};
        for (int i = 0; i < 8; i++) {
            DESK.due("the jobs go on", x.job(i, 0), kinds[i]);
        }
        DESK.due("their limits go on", x.job(0, 1), 1);
        DESK.due("the counts go on", x.counted(1, 0, 0), 3);
        x.call(0, 0, 0, 0);
        DESK.record(0, 0, 0, 3, 0, 1);
        DESK.due("the limit is met", x.job(0, 0), 0);
        DESK.due("keeps", x.keeps(), 1);
        DESK.due("the methods stay", x.call(0, 0, 0, 0), 0);
        DESK.due("the tape stays", x.wipe(), 15);
    }

    /** Promise 14: "0 none, 1 watch, 2 monitor, 3 keep; how many records it can make still, 0 if it is no watch". */
    private static void job() {
        ProbeConsole x = DESK.anew().console;
        DESK.method("m.f(0)=1", 0);
        DESK.command("keep *", 0);
        DESK.command("monitor *", 1);
        DESK.command("watch enter * 1 1 2", 2);
        DESK.command("watch enter * 1", 3);
        int[] kinds = {3, 2, 1, 1, 0};
        int[][] left = {{0, 0, 2, 99, 0}, {0, 0, 1, 98, 0}, {0, 0, 0, 97, 0}};
        for (int turn = 0; turn < 3; turn++) {
            for (int i = 0; i < 5; i++) {
                DESK.due("kind of " + i, x.job(i, 0), turn == 2 && i == 2 ? 0 : kinds[i]);
                DESK.due("left of " + i, x.job(i, 1), left[turn][i]);
            }
            x.call(0, 0, 0, 0);
        }
        DESK.command("kill 3", 3);
        DESK.due("kind of a killed one", x.job(3, 0), 0);
        DESK.due("left of a killed one", x.job(3, 1), 0);
        DESK.command("watch enter * 1 1 5", 2);
        DESK.command("monitor *", 3);
        DESK.due("left of a new one", x.job(2, 1), 5);
        DESK.due("left of a monitor in a watch's place", x.job(3, 1), 0);
        DESK.command("reset", 4);
        DESK.due("left behind reset", x.job(2, 1), 0);
    }

    /** Promise 14: "IndexOutOfBoundsException: job is not 0 to 7. IllegalArgumentException: another what." */
    private static void noSuchJob() {
        ProbeConsole x = DESK.anew().console;
        outside("job", 8, 2, x::job);
        DESK.command("watch enter * 1", 0);
        outside("job", 8, 2, x::job);
    }

    /** Promise 15: "What a monitor counted of a method: invocations (what = 0), returns (1), throws (2)." */
    private static void counted() {
        ProbeConsole x = DESK.anew().console;
        for (int i = 0; i < 16; i++) {
            DESK.method("m." + (char) ('a' + i) + "(1)=a<" + i + "?a:!a", i);
        }
        DESK.command("keep *", 0);
        DESK.command("monitor m.?", 1);
        for (int i = 0; i < 16; i++) {
            x.call(i, 3, 0, 0);
            x.call(i, 9, 0, 0);
            x.call(i, 9, 0, 0);
        }
        for (int i = 0; i < 16; i++) {
            int returns = (3 < i ? 1 : 0) + (9 < i ? 2 : 0);
            DESK.due("invocations of " + i, x.counted(1, i, 0), 3);
            DESK.due("returns of " + i, x.counted(1, i, 1), returns);
            DESK.due("throws of " + i, x.counted(1, i, 2), 3 - returns);
        }
    }

    /** Promise 15: "there is no such job, it is no monitor, or there is no such method. ... another what." */
    private static void noSuchCount() {
        ProbeConsole x = DESK.anew().console;
        DESK.bounds("counted(0, 0, 0) of a new one", () -> x.counted(0, 0, 0));
        DESK.command("monitor *", 0);
        DESK.bounds("counted(0, 0, 0) without methods", () -> x.counted(0, 0, 0));
        DESK.method("m.f(0)=1", 0);
        DESK.method("m.g(0)=1", 1);
        DESK.command("monitor *", 1);
        DESK.command("keep *", 2);
        DESK.command("watch enter * 1", 3);
        outside("counted of job", 2, 3, (job, what) -> x.counted(job, 1, what));
        outside("counted of method", 2, 3, (method, what) -> x.counted(1, method, what));
        int[] jobs = {2, 3, 4, 7};
        for (int job : jobs) {
            DESK.bounds("counted(" + job + ", 0, 0)", () -> x.counted(job, 0, 0));
        }
        DESK.command("kill 1", 1);
        DESK.bounds("counted of a killed one", () -> x.counted(1, 0, 0));
        DESK.due("the other one", x.counted(0, 0, 0), 0);
        DESK.command("watch enter * 1", 1);
        DESK.bounds("counted of a watch in a monitor's place", () -> x.counted(1, 0, 0));
        DESK.command("reset", 4);
        DESK.bounds("counted behind reset", () -> x.counted(0, 0, 0));
    }

    /** Promise 16: "How many invocations were kept." */
    private static void keeps() {
        ProbeConsole x = DESK.anew().console;
        DESK.method("m.f(1)=a?m.f(a-1):m.g()#7", 0);
        DESK.method("m.g(0)=!5", 1);
        DESK.call(0, 3, 0, 0, 0, 7);
        DESK.due("without a job", x.keeps(), 0);
        DESK.command("keep m.f", 0);
        DESK.due("before a call", x.keeps(), 0);
        DESK.call(0, 3, 0, 0, 0, 7);
        DESK.due("four of m.f", x.keeps(), 4);
        DESK.call(1, 0, 0, 0, 1, 5);
        DESK.due("m.g doesn't fit", x.keeps(), 4);
        for (int i = 0; i < 4; i++) {
            DESK.call(0, 8, 0, 0, 0, 7);
        }
        DESK.due("40", x.keeps(), 40);
        DESK.call(0, 0, 0, 0, 0, 7);
        DESK.due("40 in all", x.keeps(), 40);
        DESK.command("reset", 1);
        DESK.due("what was kept stays", x.keeps(), 40);
    }

    /** Promise 17: "the job, the method, parameters (0 where there are none), 0 if it returned, 1 if it threw, what". */
    private static void cellsOfKept() {
        DESK.anew();
        DESK.method("m.f(3)=m.g(a,b)#m.h()+c", 0);
        DESK.method("m.g(2)=a/b", 1);
        DESK.method("m.h(0)=100", 2);
        DESK.command("monitor *", 0);
        DESK.command("keep *", 1);
        DESK.call(0, 8, 2, 9, 0, 4);
        DESK.call(0, 8, 0, 9, 0, 109);
        DESK.kept(0, 1, 1, 8, 2, 0, 0, 4);
        DESK.kept(1, 1, 0, 8, 2, 9, 0, 4);
        DESK.kept(2, 1, 1, 8, 0, 0, 1, -1);
        DESK.kept(3, 1, 2, 0, 0, 0, 0, 100);
        DESK.kept(4, 1, 0, 8, 0, 9, 0, 109);
        DESK.due("keeps", DESK.console.keeps(), 5);
        DESK.call(0, MIN, MAX, -1, 0, -1);
        DESK.kept(6, 1, 0, MIN, MAX, -1, 0, -1);
    }

    /** Promise 17: "IndexOutOfBoundsException: there is none. IllegalArgumentException: another what." */
    private static void noSuchKept() {
        ProbeConsole x = DESK.anew().console;
        DESK.method("m.f(0)=1", 0);
        DESK.command("keep *", 0);
        DESK.bounds("kept(0, 0) of none", () -> x.kept(0, 0));
        x.call(0, 0, 0, 0);
        x.call(0, 0, 0, 0);
        outside("kept", 2, 7, x::kept);
        x.clear();
        DESK.bounds("kept(0, 0) behind clear", () -> x.kept(0, 0));
    }

    /** Promise 18: "What was kept i-th is invoked once more, from outside, with its parameters". */
    private static void replay() {
        ProbeConsole x = DESK.anew().console;
        DESK.method("m.f(3)=a*100+b*10+c", 0);
        DESK.method("m.g(1)=m.f(a,a+1,a+2)", 1);
        DESK.method("m.h(2)=!(a-b)", 2);
        DESK.command("keep *", 0);
        DESK.call(1, 1, 7, 7, 0, 123);
        DESK.call(2, 9, 4, 7, 1, 5);
        int[] answers = {0, 0, 1};
        int[] values = {123, 123, 5};
        int[] invoked = {1, 2, 1};
        DESK.command("reset", 1);
        for (int i = 2; i >= 0; i--) {
            DESK.due("replay(" + i + ")", x.replay(i), answers[i]);
            DESK.due("its value", x.value(), values[i]);
            DESK.due("its invocations", x.invoked(), invoked[i]);
        }
        DESK.due("what was kept stays", x.keeps(), 3);
        DESK.kept(2, 0, 2, 9, 4, 0, 1, 5);
    }

    /** Promise 18: "no probe sees anything". */
    private static void replayIsUnseen() {
        ProbeConsole x = DESK.anew().console;
        DESK.method("m.f(1)=a?m.f(a-1):!9", 0);
        DESK.command("keep *", 0);
        DESK.command("monitor *", 1);
        DESK.command("watch enter * n", 2);
        DESK.command("watch throw * x", 3);
        DESK.call(0, 1, 0, 0, 1, 9);
        DESK.due("replay", x.replay(1), 1);
        DESK.due("invoked", x.invoked(), 2);
        DESK.due("keeps", x.keeps(), 2);
        DESK.due("records", x.records(), 4);
        for (int what = 0; what < 3; what++) {
            DESK.due("counted", x.counted(1, 0, what), what == 1 ? 0 : 2);
        }
        DESK.due("records left", x.job(2, 1), 97);
        DESK.due("records left", x.job(3, 1), 97);
        DESK.call(0, 0, 0, 0, 1, 9);
        DESK.due("the next call is seen", x.keeps(), 3);
        DESK.due("the next call is seen", x.records(), 6);
    }

    /** Promise 18: "from outside": its depth is 1, and it has 1000 invocations of its own. */
    private static void replayFromOutside() {
        ProbeConsole x = DESK.anew().console;
        DESK.method("m.f(1)=a?m.f(a-1):m.g()", 0);
        DESK.method("m.g(0)=m.h()", 1);
        DESK.method("m.h(0)=6", 2);
        DESK.method("m.t(1)=a?m.t(a-1)+m.t(a-1):0", 3);
        DESK.command("keep m.g", 0);
        DESK.call(0, 8, 0, 0, 1, -2);
        DESK.kept(0, 0, 1, 0, 0, 0, 1, -2);
        DESK.due("replay", x.replay(0), 0);
        DESK.due("its value", x.value(), 6);
        DESK.due("its invocations", x.invoked(), 2);
        DESK.call(3, 9, 0, 0, 1, -3);
        DESK.due("replay", x.replay(0), 0);
        DESK.due("its invocations", x.invoked(), 2);
        DESK.command("keep m.t", 1);
        DESK.call(3, 9, 0, 0, 1, -3);
        DESK.due("keeps", x.keeps(), 40);
        // a replay may be stopped too, and the call behind it isn't
        x.clear();
        DESK.command("kill 1", 1);
        DESK.method("m.u(0)=m.t(8)+m.t(8)", 4);
        DESK.command("keep m.u", 1);
        DESK.call(4, 0, 0, 0, 1, -3);
        DESK.due("replay", x.replay(0), 1);
        DESK.due("its value", x.value(), -3);
        DESK.due("its invocations", x.invoked(), 1000);
        DESK.call(2, 0, 0, 0, 0, 6);
    }

    /** Promise 18: "IndexOutOfBoundsException: there is none." */
    private static void noSuchReplay() {
        ProbeConsole x = DESK.anew().console;
        DESK.bounds("replay(0) of none", () -> x.replay(0));
        DESK.method("m.f(0)=1", 0);
        DESK.command("keep *", 0);
        x.call(0, 0, 0, 0);
        int[] none = {-1, 1, 2, 39, 40, MIN, MAX};
        for (int i : none) {
            DESK.bounds("replay(" + i + ")", () -> x.replay(i));
        }
        DESK.due("replay(0)", x.replay(0), 0);
        x.clear();
        DESK.bounds("replay(0) behind clear", () -> x.replay(0));
    }

    /** "Methods throw what their comments name, the one named first when several would do". */
    private static void theOneNamedFirst() {
        ProbeConsole x = DESK.anew().console;
        int[] whats = {-1, 2, 3, 5, 7, MIN, MAX};
        for (int what : whats) {
            DESK.bounds("record(0, " + what + ")", () -> x.record(0, what));
            DESK.bounds("job(8, " + what + ")", () -> x.job(8, what));
            DESK.bounds("job(-1, " + what + ")", () -> x.job(-1, what));
            DESK.bounds("counted(0, 0, " + what + ")", () -> x.counted(0, 0, what));
            DESK.bounds("kept(0, " + what + ")", () -> x.kept(0, what));
        }
        DESK.command("monitor *", 0);
        DESK.command("keep *", 1);
        DESK.bounds("no such method", () -> x.counted(0, 0, 3));
        DESK.method("m.f(0)=1", 0);
        DESK.bounds("no monitor", () -> x.counted(1, 0, 3));
        DESK.argument("another what", () -> x.counted(0, 0, 3));
    }

    /** "a call that throws, or answers NONE, changes nothing (but for method() and command())". */
    private static void whatThrowsChangesNothing() {
        ProbeConsole x = DESK.anew().console;
        DESK.method("m.f(1)=!a", 0);
        DESK.command("watch throw * x", 0);
        DESK.command("monitor *", 1);
        DESK.command("keep *", 2);
        DESK.call(0, 9, 0, 0, 1, 9);
        DESK.badCommand("kill 100", 2, 5);
        IntSupplier[] bad = {() -> x.call(1, 3, 3, 3), () -> x.call(-1, 3, 3, 3), () -> x.record(1, 0), () -> x.job(8, 0), () -> x.counted(0, 0, 0),
            () -> x.kept(1, 0), () -> x.replay(1), () -> x.replay(-1)};
        for (IntSupplier call : bad) {
            DESK.bounds("a call that throws", call);
        }
        IntSupplier[] arguments = {() -> x.feed(0, 0), () -> x.feed(9, 0), () -> x.record(0, 5), () -> x.job(0, 2), () -> x.counted(1, 0, 3),
            () -> x.kept(0, 7)};
        for (IntSupplier call : arguments) {
            DESK.argument("a call that throws", call);
        }
        state(x, 2, 5);
        DESK.due("value", x.value(), 9);
        DESK.due("invoked", x.invoked(), 1);
        DESK.due("records", x.records(), 1);
        DESK.record(0, 0, 0, 9, 0, 1);
        DESK.due("counted", x.counted(1, 0, 0), 1);
        DESK.due("keeps", x.keeps(), 1);
        DESK.kept(0, 2, 0, 9, 0, 0, 1, 9);
        DESK.due("records left", x.job(0, 1), 98);
        DESK.due("the tape", x.wipe(), 8);
    }

    /** A call of a row, or another thing that is counted from 0 on, and of what is asked of it. */
    private interface Cell {
        int of(int row, int what);
    }

    private static void outside(String name, int rows, int whats, Cell cell) {
        int[] noRows = {-1, rows, rows + 1, 1000, MIN, MAX};
        int[] noWhats = {-1, whats, whats + 1, 1000, MIN, MAX};
        for (int row : noRows) {
            DESK.bounds(name + "(" + row + ", 0)", () -> cell.of(row, 0));
            DESK.bounds(name + "(" + row + ", " + (whats - 1) + ")", () -> cell.of(row, whats - 1));
            DESK.bounds(name + "(" + row + ", -1)", () -> cell.of(row, -1));
            DESK.bounds(name + "(" + row + ", " + whats + ")", () -> cell.of(row, whats));
        }
        for (int what : noWhats) {
            DESK.argument(name + "(0, " + what + ")", () -> cell.of(0, what));
            DESK.argument(name + "(" + (rows - 1) + ", " + what + ")", () -> cell.of(rows - 1, what));
        }
    }
}
