/** Promises 4, 6 and 7: method, and the faults of methods' texts with their places. */
final class MethodTest {
    private static final Desk DESK = new Desk();

    public static void main(String[] args) {
        numbersFromZero();
        heads();
        names();
        numbers();
        kinds();
        nodes();
        brackets();
        argumentsOfNames();
        variables();
        lastFaults();
        faultsOfOnePlace();
        theTapeStays();
        DESK.end("MethodTest");
    }

    private static void numbersFromZero() {
        DESK.anew();
        for (int i = 0; i < 16; i++) {
            DESK.method("m." + (char) ('a' + i) + "(0)=" + i, i);
        }
        DESK.badMethod("m.q(0)=1", 5, 8);
        DESK.badMethod("m.a(0)=1", 5, 8);
        DESK.badMethod("m.q(0)=", 1, 7);
        for (int i = 0; i < 16; i++) {
            DESK.call(i, 9, 9, 9, 0, i);
        }
        DESK.bounds("call of a 17th method", () -> DESK.console.call(16, 0, 0, 0));
    }

    private static void heads() {
        DESK.anew();
        DESK.badMethod("", 1, 0);
        DESK.badMethod(" m.f(0)=1", 1, 0);
        DESK.badMethod("m.f (0)=1", 1, 3);
        DESK.badMethod("m.f( 0)=1", 1, 4);
        DESK.badMethod("m.f(0) =1", 1, 6);
        DESK.badMethod("m.f(0)= 1", 1, 7);
        DESK.badMethod("m.f(0)=1 ", 1, 8);
        DESK.badMethod("m.f", 1, 3);
        DESK.badMethod("m.f(", 1, 4);
        DESK.badMethod("m.f(1", 1, 5);
        DESK.badMethod("m.f(1)", 1, 6);
        DESK.badMethod("m.f(1)=", 1, 7);
        DESK.badMethod("m.f()=1", 1, 4);
        DESK.badMethod("m.f(4)=1", 1, 4);
        DESK.badMethod("m.f(9)=1", 1, 4);
        DESK.badMethod("m.f(a)=1", 1, 4);
        DESK.badMethod("m.f(-1)=1", 1, 4);
        DESK.badMethod("m.f(01)=1", 1, 5);
        DESK.badMethod("m.f(10)=1", 1, 5);
        DESK.badMethod("m.f(0):1", 1, 6);
        DESK.badMethod("m.f[0)=1", 1, 3);
        DESK.badMethod("m.f=1", 1, 3);
        DESK.method("m.f(0)=1", 0);
        DESK.method("m.f(3)=1", 1);
    }

    private static void names() {
        DESK.anew();
        String[] none = {"mf(0)=1", ".f(0)=1", "m.(0)=1", "m..f(0)=1", "a.b.c(0)=1", "a(0)=1", ".(0)=1", "..(0)=1", "1m.f(0)=1",
            "M.f(0)=1", "(0)=1", "abcdefghijklmn(0)=1", "abcdefghijklm.(0)=1", ".abcdefghijklm(0)=1", "abc.efghijklm.n(0)=1"};
        for (String text : none) {
            DESK.badMethod(text, 1, 0);
        }
        DESK.badMethod("m.F(0)=1", 1, 0);
        DESK.badMethod("m.fF(0)=1", 1, 3);
        DESK.badMethod("m.f2(0)=1", 1, 3);
        DESK.badMethod("abcdefghij.kl(0)=1", 3, 12);
        DESK.badMethod("a.bcdefghijklmnop(0)=1", 3, 12);
        DESK.badMethod("a.bcdefghijklmnop", 3, 12);
        DESK.badMethod("abcdefghijkl.m(0)=1", 3, 12);
        DESK.method("abcdefghij.k(0)=1", 0);
        DESK.method("a.b(0)=abcdefghij.k()", 1);
        DESK.badMethod("a.c(0)=abcdefghij.kl()", 3, 19);
        DESK.badMethod("a.c(0)=abcdefghijkl()", 1, 7);
        DESK.badMethod("a.c(0)=ab", 1, 7);
        DESK.badMethod("a.c(0)=1+a..b()", 1, 9);
        DESK.badMethod("a.c(0)=1+.", 1, 9);
        DESK.badMethod("a.c(0)=a.", 1, 7);
        DESK.badMethod("a.c(0)=.a", 1, 7);
        DESK.badMethod("a.c(0)=a.b", 1, 10);
        DESK.badMethod("a.c(0)=a.b+1", 1, 10);
        DESK.badMethod("a.c(0)=a.b (1)", 1, 10);
        DESK.badMethod("a.c(1)=a(1)", 1, 8);
        DESK.badMethod("a.c(1)=a1", 1, 8);
        DESK.badMethod("a.c(1)=1a", 1, 8);
    }

    private static void numbers() {
        DESK.anew();
        DESK.method("n.a(0)=2147483647", 0);
        DESK.method("n.b(0)=0000000000000000002147483647", 1);
        DESK.badMethod("n.c(0)=2147483648", 2, 7);
        DESK.badMethod("n.c(0)=1+2147483648", 2, 9);
        DESK.badMethod("n.c(0)=-2147483648", 2, 8);
        DESK.badMethod("n.c(0)=4294967296", 2, 7);
        DESK.badMethod("n.c(0)=18446744073709551617", 2, 7);
        DESK.badMethod("n.c(0)=" + "9".repeat(190), 2, 7);
        DESK.badMethod("n.c(0)=2147483648x", 2, 7);
        DESK.badMethod("n.c(0)=2147483648", 2, 7);
        DESK.method("n.c(0)=" + "0".repeat(192) + "7", 2);
        DESK.call(0, 0, 0, 0, 0, 2147483647);
        DESK.call(1, 0, 0, 0, 0, 2147483647);
        DESK.call(2, 0, 0, 0, 0, 7);
    }

    private static void kinds() {
        DESK.anew();
        DESK.badMethod("k.a(0)=1<2<3", 1, 10);
        DESK.badMethod("k.a(0)=1=2>3", 1, 10);
        DESK.badMethod("k.a(0)=1<", 1, 9);
        DESK.badMethod("k.a(0)=1<=2", 1, 9);
        DESK.badMethod("k.a(0)=*1", 1, 7);
        DESK.badMethod("k.a(0)=+1", 1, 7);
        DESK.badMethod("k.a(0)=1+", 1, 9);
        DESK.badMethod("k.a(0)=1!2", 1, 8);
        DESK.badMethod("k.a(0)=1?2", 1, 10);
        DESK.badMethod("k.a(0)=1?2:", 1, 11);
        DESK.badMethod("k.a(0)=1?:2", 1, 9);
        DESK.badMethod("k.a(0)=1:2", 1, 8);
        DESK.badMethod("k.a(0)=1?2:3:4", 1, 12);
        DESK.badMethod("k.a(0)=(1?2):3", 1, 11);
        DESK.badMethod("k.a(0)=#1", 1, 7);
        DESK.badMethod("k.a(0)=1#", 1, 9);
        DESK.badMethod("k.a(0)=1##2", 1, 9);
        DESK.badMethod("k.a(0)=()", 1, 8);
        DESK.badMethod("k.a(0)=(1", 1, 9);
        DESK.badMethod("k.a(0)=1)", 1, 8);
        DESK.badMethod("k.a(0)=(1))", 1, 10);
        DESK.badMethod("k.a(0)=(1,2)", 1, 9);
        DESK.badMethod("k.a(0)=1,2", 1, 8);
        DESK.badMethod("k.a(0)=1 2", 1, 8);
        DESK.badMethod("k.a(0)=1+ 2", 1, 9);
        DESK.badMethod("k.a(0)=&", 1, 7);
        DESK.badMethod("k.a(0)=1\u00ab2", 1, 8);
        DESK.method("k.a(0)=1?2#3:4?5:6#7", 0);
        DESK.method("k.b(0)=1--!-2*-3", 1);
        DESK.method("k.c(0)=(1<2)=((3))", 2);
        DESK.method("k.d(0)=1<2?3>4?5:6:7=8", 3);
    }

    private static void nodes() {
        DESK.anew();
        String ten = "1+1+1+1+1+1+1+1+1+1";
        DESK.method("n.a(0)=-" + ten, 0);
        DESK.badMethod("n.b(0)=" + ten + "+1", 3, 27);
        DESK.badMethod("n.b(0)=--" + ten, 3, 27);
        DESK.badMethod("n.b(0)=-" + ten + "+1", 3, 27);
        DESK.badMethod("n.b(0)=-" + ten + "#1", 3, 27);
        DESK.badMethod("n.b(0)=-" + ten + "?1:2", 3, 27);
        DESK.badMethod("n.b(0)=-" + ten + "<1", 3, 27);
        DESK.badMethod("n.b(0)=-" + ten + ")", 1, 27);
        DESK.badMethod("n.b(0)=" + "-".repeat(21) + "1", 3, 27);
        DESK.badMethod("n.b(0)=" + "!".repeat(20) + "1", 3, 27);
        DESK.method("n.b(0)=" + "-".repeat(19) + "1", 1);
        DESK.badMethod("n.c(0)=" + "-".repeat(20) + "n.a()", 3, 27);
        DESK.badMethod("n.c(0)=" + "-".repeat(20) + "(1)", 3, 28);
        DESK.method("n.c(0)=" + "-".repeat(19) + "n.a()", 2);
        // brackets and commas are no nodes, and ?: is one
        DESK.method("n.d(0)=n.x(1,2,(3))+n.x(1,2,3)+n.x(1,2,3)+n.x(1,2,3)", 3);
        DESK.badMethod("n.e(0)=n.x(1,2,(3))+n.x(1,2,3)+n.x(1,2,3)+n.x(1,2,3)+-1", 3, 53);
        String six = "1?1:1?1:1?1:1?1:1?1:1?1:";
        DESK.method("n.e(0)=" + six + "-1", 4);
        DESK.badMethod("n.f(0)=" + six + "--1", 3, 33);
    }

    private static void brackets() {
        DESK.anew();
        DESK.method("b.a(0)=" + "(".repeat(12) + "1" + ")".repeat(12), 0);
        DESK.badMethod("b.b(0)=" + "(".repeat(13) + "1" + ")".repeat(13), 3, 19);
        DESK.badMethod("b.b(0)=" + "(".repeat(13), 3, 19);
        DESK.badMethod("b.b(0)=" + "(".repeat(12), 1, 19);
        DESK.badMethod("b.b(0)=" + "(".repeat(190), 3, 19);
        DESK.method("b.b(0)=(((((((((((1)))))))))))+(((((((((((2)))))))))))", 1);
        DESK.badMethod("b.c(0)=" + "(".repeat(12) + "b.a()", 3, 22);
        DESK.method("b.c(0)=" + "(".repeat(11) + "b.a()" + ")".repeat(11), 2);
        DESK.badMethod("b.d(0)=" + "b.a(".repeat(13), 3, 7 + 12 * 4 + 3);
        DESK.method("b.d(0)=" + "b.a(".repeat(12) + "1" + ")".repeat(12), 3);
        DESK.method("b.e(0)=(1)+(2)+(3)+(4)+(5)+(6)+(7)+(8)+(9)+((1))", 4);
        DESK.call(1, 0, 0, 0, 0, 3);
        DESK.call(2, 0, 0, 0, 0, 1);
    }

    private static void argumentsOfNames() {
        DESK.anew();
        DESK.method("a.a(0)=a.b()", 0);
        DESK.method("a.b(0)=a.b(1)+a.b(1,2)+a.b(1,2,3)", 1);
        DESK.badMethod("a.c(0)=a.b(1,2,3,4)", 3, 17);
        DESK.badMethod("a.c(0)=a.b(1,2,3,-4)", 3, 17);
        DESK.badMethod("a.c(0)=a.b(1,2,3,(4))", 3, 17);
        DESK.badMethod("a.c(0)=a.b(1,2,3,a.b())", 3, 17);
        DESK.badMethod("a.c(0)=a.b(1,2,3,)", 1, 17);
        DESK.badMethod("a.c(0)=a.b(1,2,3,", 1, 17);
        DESK.badMethod("a.c(0)=a.b(1,2,3", 1, 16);
        DESK.badMethod("a.c(0)=a.b(", 1, 11);
        DESK.badMethod("a.c(0)=a.b(,1)", 1, 11);
        DESK.badMethod("a.c(0)=a.b(1,)", 1, 13);
        DESK.badMethod("a.c(0)=a.b(1,,2)", 1, 13);
        DESK.badMethod("a.c(0)=a.b(1;2)", 1, 12);
        DESK.badMethod("a.c(0)=a.b(1, 2)", 1, 13);
        DESK.method("a.c(0)=a.b(a.b(1,2,3),a.b(4,5,6),a.b(7,8,9))", 2);
        DESK.badMethod("a.d(0)=a.b(a.b(1,2,3),a.b(4,5,6),a.b(7,8,9),0)", 3, 44);
    }

    private static void variables() {
        DESK.anew();
        DESK.badMethod("v.a(0)=a", 4, 7);
        DESK.badMethod("v.a(1)=b", 4, 7);
        DESK.badMethod("v.a(2)=a+b+c", 4, 11);
        DESK.badMethod("v.a(3)=a+b+c+d", 4, 13);
        DESK.badMethod("v.a(3)=r", 4, 7);
        DESK.badMethod("v.a(3)=1+x", 4, 9);
        DESK.badMethod("v.a(3)=n(", 4, 7);
        DESK.badMethod("v.a(3)=k", 4, 7);
        DESK.method("v.a(1)=a", 0);
        DESK.method("v.a(2)=a+b", 1);
        DESK.method("v.a(3)=a+b*c", 2);
    }

    private static void lastFaults() {
        DESK.anew();
        DESK.method("m.f(1)=a", 0);
        DESK.badMethod("m.f(1)=b", 4, 7);
        DESK.badMethod("m.f(1)=a", 5, 8);
        DESK.badMethod("m.f(1)=1+2+3", 5, 12);
        DESK.method("m.f(2)=a", 1);
        DESK.method("m.f(0)=3", 2);
        DESK.method("m.ff(1)=4", 3);
        DESK.due("the first stays as it was", DESK.console.call(0, 77, 0, 0), 0);
        DESK.due("its value", DESK.console.value(), 77);
        DESK.badCommand("nothing", 1, 0);
        DESK.due("a method that is taken", DESK.method("m.g(0)=1"), 4);
        DESK.due("takes the fault away", DESK.console.fault(), 0);
        DESK.due("and its place", DESK.console.place(), -1);
        DESK.method("m.g(0)");
        DESK.console.wipe();
        DESK.console.feed(1, 0);
        DESK.console.call(0, 0, 0, 0);
        DESK.console.clear();
        DESK.due("other calls leave the fault", DESK.console.fault(), 1);
        DESK.due("and its place", DESK.console.place(), 6);
    }

    /** Of faults at one place the one that is told first. */
    private static void faultsOfOnePlace() {
        DESK.anew();
        String twenty = "-".repeat(20);
        DESK.badMethod("m.f(0)=" + twenty + "2147483648", 2, 27);
        DESK.badMethod("m.f(0)=" + twenty + "a", 3, 27);
        DESK.badMethod("m.f(0)=" + twenty + "ab", 1, 27);
        DESK.badMethod("m.f(0)=" + twenty + ")", 1, 27);
        DESK.badMethod("m.f(0)=" + twenty, 1, 27);
        DESK.badMethod("m.f(0)=m.f(1,2,3,a)", 3, 17);
        DESK.badMethod("m.f(0)=m.f(1,2,3,2147483648)", 2, 17);
        DESK.badMethod("m.f(0)=m.f(1,2,3,ab)", 1, 17);
    }

    private static void theTapeStays() {
        DESK.anew().tape("m.f(0)=5");
        DESK.due("method", DESK.console.method(), 0);
        DESK.due("method again", DESK.console.method(), -1);
        DESK.due("its fault", DESK.console.fault(), 5);
        DESK.add("+1");
        DESK.due("method with more", DESK.console.method(), -1);
        DESK.due("its place", DESK.console.place(), 10);
        DESK.due("the tape stays", DESK.console.wipe(), 10);
    }
}
