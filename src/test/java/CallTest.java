/** Promises 8, 9 and 10: call, value, invoked, and the values of expressions. */
final class CallTest {
    private static final Desk DESK = new Desk();
    private static final int MIN = Integer.MIN_VALUE;
    private static final int MAX = Integer.MAX_VALUE;

    public static void main(String[] args) {
        values();
        choices();
        throwing();
        holding();
        invoking();
        depths();
        tooMany();
        stoppedWithinProbes();
        parameters();
        wrongMethods();
        DESK.end("CallTest");
    }

    /** The expression over a, b, c, and what it returns. */
    private static void returns(String expression, int a, int b, int c, int value) {
        DESK.anew().method("t.t(3)=" + expression);
        DESK.due(expression + " is taken", DESK.console.fault(), 0);
        DESK.call(0, a, b, c, 0, value);
        DESK.due("invoked of " + expression, DESK.console.invoked(), 1);
    }

    private static void throwsOf(String expression, int a, int b, int c, int value) {
        DESK.anew().method("t.t(3)=" + expression);
        DESK.due(expression + " is taken", DESK.console.fault(), 0);
        DESK.call(0, a, b, c, 1, value);
    }

    private static void values() {
        returns("a+b*c", 2, 3, 4, 14);
        returns("(a+b)*c", 2, 3, 4, 20);
        returns("a-b-c", 10, 3, 4, 3);
        returns("a-(b-c)", 10, 3, 4, 11);
        returns("a/b/c", 100, 5, 2, 10);
        returns("a*b/c%4", 7, 5, 3, 3);
        returns("a%b*c", 17, 10, 3, 21);
        returns("a/b", -7, 2, 0, -3);
        returns("a%b", -7, 2, 0, -1);
        returns("a/b", 7, -2, 0, -3);
        returns("a%b", 7, -2, 0, 1);
        returns("a/b", MIN, -1, 0, MIN);
        returns("a%b", MIN, -1, 0, 0);
        returns("a+b", MAX, 1, 0, MIN);
        returns("a-b", MIN, 1, 0, MAX);
        returns("a*b", 65536, 65536, 0, 0);
        returns("a*b", 46341, 46341, 0, -2147479015);
        returns("-a", MIN, 0, 0, MIN);
        returns("-a", 5, 0, 0, -5);
        returns("--a", 5, 0, 0, 5);
        returns("-a*b", 5, 3, 0, -15);
        returns("a--b", 5, 3, 0, 8);
        returns("a*-b", 5, 3, 0, -15);
        returns("a<b", 1, 2, 0, 1);
        returns("a<b", 2, 2, 0, 0);
        returns("a<b", MIN, MAX, 0, 1);
        returns("a=b", 2, 2, 0, 1);
        returns("a=b", 2, 3, 0, 0);
        returns("a>b", 3, 2, 0, 1);
        returns("a>b", MAX, MIN, 0, 1);
        returns("a>b", 2, 3, 0, 0);
        returns("a+b<c+3", 1, 2, 1, 1);
        returns("(a<b)<c", 1, 2, 3, 1);
        returns("(a>b)=0", 1, 2, 3, 1);
        returns("2147483647+1", 0, 0, 0, MIN);
        returns("c", 1, 2, 3, 3);
        returns("007", 1, 2, 3, 7);
    }

    private static void choices() {
        returns("a?b:c", 1, 2, 3, 2);
        returns("a?b:c", 0, 2, 3, 3);
        returns("a?b:c", -1, 2, 3, 2);
        returns("a?b?1:2:c?3:4", 1, 0, 9, 2);
        returns("a?b?1:2:c?3:4", 0, 0, 9, 3);
        returns("a?b?1:2:c?3:4", 0, 0, 0, 4);
        returns("a<b?a:b", 3, 2, 0, 2);
        returns("a?b:!c", 1, 2, 3, 2);
        returns("a?!b:c", 0, 2, 3, 3);
        returns("a?b/0:c", 0, 2, 3, 3);
        returns("1+(a?b:c)*2", 0, 2, 3, 7);
        returns("a?b:c+1", 1, 2, 3, 2);
        returns("a?!b#5:c", 1, 2, 3, 5);
        returns("(a?1:0)?b:c", 0, 2, 3, 3);
        throwsOf("!a?b:c", 1, 2, 3, 1);
        throwsOf("a?!b:c", 1, 2, 3, 2);
    }

    private static void throwing() {
        throwsOf("!a", 7, 0, 0, 7);
        throwsOf("!a+1", 7, 0, 0, 7);
        throwsOf("!-a", 7, 0, 0, -7);
        throwsOf("-!a", 7, 0, 0, 7);
        throwsOf("!!a", 7, 0, 0, 7);
        throwsOf("!0", 7, 0, 0, 0);
        throwsOf("!(a+b)", 7, 8, 0, 15);
        throwsOf("!a+!b", 7, 8, 0, 7);
        throwsOf("a+!b*!c", 7, 8, 9, 8);
        throwsOf("a/b", 7, 0, 0, -1);
        throwsOf("a%b", 7, 0, 0, -1);
        throwsOf("!a/b", 7, 0, 0, 7);
        throwsOf("a/!b", 7, 5, 0, 5);
        throwsOf("!1<!2", 0, 0, 0, 1);
    }

    private static void holding() {
        returns("a#b", 1, 2, 0, 1);
        returns("!a#b", 1, 2, 0, 2);
        returns("!a#!b#c", 1, 2, 3, 3);
        returns("a#!b#c", 1, 2, 3, 1);
        returns("!a#b#!c", 1, 2, 3, 2);
        returns("(a#!b)+c", 1, 2, 3, 4);
        returns("10+(!a#b)*2", 1, 2, 3, 14);
        returns("a/0#b", 1, 2, 0, 2);
        returns("a+(b*(c+!a)#7)", 1, 2, 3, 8);
        returns("a+(b*(c+(!a#4)))", 1, 2, 3, 15);
        returns("(1+(2+(3+!a)))#b", 1, 2, 3, 2);
        returns("((!a#!b)#c)", 1, 2, 3, 3);
        returns("!a#(!b#c)", 1, 2, 3, 3);
        returns("a?!b:c#9", 1, 2, 3, 9);
        returns("a?b:c#9", 0, 2, 3, 3);
        returns("!3#1", 0, 0, 0, 1);
        returns("!-3#1", 0, 0, 0, 1);
        returns("(!1#2)?(!3#4):5", 0, 0, 0, 4);
        throwsOf("!a#!b", 1, 2, 0, 2);
        throwsOf("!a#!b#!c", 1, 2, 3, 3);
        throwsOf("(a#b)+!c", 1, 2, 3, 3);
        throwsOf("!(!a#b)", 1, 2, 3, 2);
        throwsOf("a/(0#b)", 1, 2, 3, -1);
    }

    private static void invoking() {
        DESK.anew();
        DESK.method("m.fib(1)=a<2?a:m.fib(a-1)+m.fib(a-2)", 0);
        DESK.method("m.sub(2)=a-b", 1);
        DESK.method("m.sub(1)=m.sub(0,a)", 2);
        DESK.method("m.sub(0)=m.sub(m.sub(9,4),m.sub(3,1))", 3);
        DESK.method("m.none(1)=a?m.non(1):m.sub(1,2,3)", 4);
        DESK.method("m.later(0)=m.new()", 5);
        DESK.method("m.order(0)=m.non(!7)", 6);
        DESK.method("m.args(0)=m.sub(!1,!2)", 7);
        DESK.method("m.held(0)=m.non()#3", 8);
        DESK.method("m.wide(3)=a*100+b*10+c", 9);
        DESK.method("m.call(3)=m.wide(c,b,a)", 10);
        DESK.call(0, 6, 0, 0, 0, 8);
        DESK.due("invoked", DESK.console.invoked(), 25);
        DESK.call(1, 7, 5, 0, 0, 2);
        DESK.due("invoked", DESK.console.invoked(), 1);
        DESK.call(2, 7, 5, 0, 0, -7);
        DESK.due("invoked", DESK.console.invoked(), 2);
        DESK.call(3, 7, 5, 0, 0, 3);
        DESK.due("invoked", DESK.console.invoked(), 4);
        DESK.call(4, 1, 0, 0, 1, -4);
        DESK.due("invoked", DESK.console.invoked(), 1);
        DESK.call(4, 0, 0, 0, 1, -4);
        DESK.call(5, 0, 0, 0, 1, -4);
        DESK.call(6, 0, 0, 0, 1, 7);
        DESK.call(7, 0, 0, 0, 1, 1);
        DESK.due("invoked", DESK.console.invoked(), 1);
        DESK.call(8, 0, 0, 0, 0, 3);
        DESK.call(10, 1, 2, 3, 0, 321);
        DESK.method("m.new(0)=!5", 11);
        DESK.call(5, 0, 0, 0, 1, 5);
        DESK.due("invoked", DESK.console.invoked(), 2);
    }

    private static void depths() {
        DESK.anew();
        DESK.method("d.deep(1)=d.deep(a+1)", 0);
        DESK.method("d.soft(1)=d.soft(a+1)#a", 1);
        DESK.method("d.down(1)=a?d.down(a-1)+1:0", 2);
        DESK.method("d.none(1)=a?d.none(a-1):d.what()", 3);
        DESK.method("d.args(1)=a?d.args(d.args(0)+a-1):0", 4);
        DESK.call(0, 1, 0, 0, 1, -2);
        DESK.due("invoked", DESK.console.invoked(), 10);
        DESK.call(1, 1, 0, 0, 0, 10);
        DESK.due("invoked", DESK.console.invoked(), 10);
        DESK.call(2, 9, 0, 0, 0, 9);
        DESK.due("invoked", DESK.console.invoked(), 10);
        DESK.call(2, 10, 0, 0, 1, -2);
        DESK.due("invoked", DESK.console.invoked(), 10);
        DESK.call(3, 9, 0, 0, 1, -4);
        DESK.call(3, 10, 0, 0, 1, -2);
        // what stands in an argument is as deep as what it is the argument of
        DESK.call(4, 9, 0, 0, 0, 0);
        DESK.due("invoked", DESK.console.invoked(), 19);
        DESK.call(4, 10, 0, 0, 1, -2);
    }

    private static void tooMany() {
        DESK.anew();
        DESK.method("t.many(1)=t.many(a-1)+t.many(a-1)+1#7", 0);
        DESK.method("t.hold(0)=(t.many(1)+t.many(1)#5)#6", 1);
        DESK.method("t.two(1)=a?t.two(a-1)+t.two(a-1):1", 2);
        DESK.method("t.rest(0)=t.two(2)+t.two(1)+t.two(0)", 3);
        DESK.method("t.full(0)=t.two(8)+t.two(7)+t.two(6)+t.two(5)+t.two(4)+t.rest()", 4);
        DESK.method("t.over(0)=t.two(8)+t.two(7)+t.two(6)+t.two(5)+t.two(4)+t.rest()+t.own()#9", 5);
        DESK.method("t.own(0)=!-3#4", 6);
        DESK.call(0, 3, 0, 0, 1, -3);
        DESK.due("invoked", DESK.console.invoked(), 1000);
        DESK.call(1, 0, 0, 0, 1, -3);
        DESK.due("invoked", DESK.console.invoked(), 1000);
        DESK.call(3, 0, 0, 0, 0, 7);
        DESK.due("invoked", DESK.console.invoked(), 12);
        // itself, 511 + 255 + 127 + 63 + 31, and 12
        DESK.call(4, 0, 0, 0, 0, 256 + 128 + 64 + 32 + 16 + 7);
        DESK.due("invoked", DESK.console.invoked(), 1000);
        DESK.call(5, 0, 0, 0, 1, -3);
        DESK.due("invoked", DESK.console.invoked(), 1000);
        // the next call has all its invocations again, and a thrown -3 of its own is held
        DESK.call(6, 0, 0, 0, 0, 4);
        DESK.due("invoked", DESK.console.invoked(), 1);
    }

    /** What a probe throws itself is held by its own #, even while nothing holds the call's -3. */
    private static void stoppedWithinProbes() {
        DESK.anew();
        DESK.method("t.many(1)=t.many(a-1)+t.many(a-1)+1#7", 0);
        DESK.command("watch throw * x/0#5", 0);
        DESK.command("watch throw * x/0", 1);
        DESK.command("watch throw * x*n", 2);
        DESK.call(0, 3, 0, 0, 1, -3);
        DESK.due("invoked", DESK.console.invoked(), 1000);
        DESK.due("records", DESK.console.records() % 3, 0);
        DESK.record(0, 0, 0, 5, 0, 9);
        DESK.record(1, 1, 0, -1, 1, 9);
        DESK.record(2, 2, 0, -27, 0, 9);
    }

    private static void parameters() {
        DESK.anew();
        DESK.method("p.p(0)=p.z(1,2,3)", 0);
        DESK.method("p.p(1)=a", 1);
        DESK.method("p.p(2)=a*10+b", 2);
        DESK.method("p.p(3)=a*100+b*10+c", 3);
        DESK.command("watch enter * a*100+b*10+c", 0);
        DESK.call(0, 1, 2, 3, 1, -4);
        DESK.call(1, 1, 2, 3, 0, 1);
        DESK.call(2, 1, 2, 3, 0, 12);
        DESK.call(3, 1, 2, 3, 0, 123);
        DESK.call(1, 4, 2, 3, 0, 4);
        int[] seen = {0, 100, 120, 123, 400};
        for (int i = 0; i < seen.length; i++) {
            DESK.record(i, 0, i == 4 ? 1 : i, seen[i], 0, 1);
        }
    }

    private static void wrongMethods() {
        ProbeConsole x = DESK.anew().console;
        DESK.method("m.f(1)=!a", 0);
        DESK.call(0, 6, 0, 0, 1, 6);
        int[] bad = {1, -1, 15, 16, MIN, MAX};
        for (int method : bad) {
            DESK.bounds("call of " + method, () -> x.call(method, 1, 2, 3));
        }
        DESK.due("a call that throws leaves the value", x.value(), 6);
        DESK.due("and the invocations", x.invoked(), 1);
    }
}
