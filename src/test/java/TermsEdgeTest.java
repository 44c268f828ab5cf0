/** The boundary cases that the document's Terms name: a test for each sentence, in the document's order. */
final class TermsEdgeTest {
    private static final Desk DESK = new Desk();
    private static final int MIN = Integer.MIN_VALUE;
    private static final int MAX = Integer.MAX_VALUE;
    /** 19 nodes. */
    private static final String TEN_ONES = "1+1+1+1+1+1+1+1+1+1";
    private static final String SIGNS_BETWEEN = "#<=>+-*/%";

    public static void main(String[] args) {
        tapeOf200();
        blanksNotAbove32();
        letters();
        noBlanksWithin();
        twentyNodes();
        twentyNodesHaveAValue();
        kindsFromLoosestToClosest();
        numbersUpTo2147483647();
        variablesAlone();
        namesOfTwelve();
        threeExpressionsOfAName();
        twelveOpenBrackets();
        wrappingValues();
        cutOff();
        byZero();
        oneOrZero();
        theOtherOneIsNotLookedAt();
        theRightOfAHolderIsNotLookedAt();
        throwsEndAllInWhichTheyStand();
        soManyParameters();
        noneSuch();
        fromLeftToRight();
        parametersFrom0To3();
        sixteenMethods();
        noTwoTheSame();
        depthAbove10();
        the1001stInvocation();
        the1001stIsNotHeld();
        unseenAndUncounted();
        DESK.end("TermsEdgeTest");
    }

    private static String times(String text, int n) {
        return text.repeat(n);
    }

    /** A method of three parameters returns this. */
    private static void returns(String expression, int a, int b, int c, int value) {
        DESK.anew().method("t.t(3)=" + expression, 0);
        DESK.call(0, a, b, c, 0, value);
    }

    private static void throwing(String expression, int a, int b, int c, int value) {
        DESK.anew().method("t.t(3)=" + expression, 0);
        DESK.call(0, a, b, c, 1, value);
    }

    /** "THE TAPE has up to 200 bytes." */
    private static void tapeOf200() {
        DESK.anew();
        DESK.method("m.f(0)=" + times("0", 192) + "7", 0);
        DESK.call(0, 0, 0, 0, 0, 7);
        DESK.badMethod("m.g(0)=" + times("0", 192) + "x", 1, 199);
        DESK.badMethod("m.g(0)=" + times("0", 192) + "+", 1, 200);
        DESK.badMethod("m.f(0)=" + times("0", 193), 5, 200);
        DESK.anew();
        DESK.command(times(" ", 194) + "keep *", 0);
        DESK.command("keep *" + times(" ", 194), 1);
        DESK.badCommand("keep *" + times(" ", 193) + "*", 1, 199);
        DESK.badCommand("kill 7" + times(" ", 194), 5, 200);
        DESK.badCommand(times(" ", 196) + "keep", 1, 200);
        DESK.badCommand(times(" ", 200), 1, 200);
        DESK.due("a byte more", DESK.console.feed(1, ' '), -1);
    }

    /** "BLANKS are bytes not above 32.", and a word ends at no other byte. */
    private static void blanksNotAbove32() {
        for (int value = 0; value < 256; value++) {
            String one = "" + (char) value;
            DESK.anew();
            if (value <= 32) {
                DESK.command("keep" + one + "*", 0);
                DESK.command(one + "keep *", 1);
                DESK.command("keep *" + one, 2);
                DESK.badMethod("m.f(0)=1" + one, 1, 8);
            } else {
                DESK.badCommand("keep" + one + "*", 1, 0);
                DESK.badCommand(one + "keep *", 1, 0);
                if (".*?".indexOf(value) < 0 && (value < 'a' || value > 'z')) {
                    DESK.badCommand("keep *" + one, 1, 6);
                }
            }
        }
    }

    /** "LETTERS are a .. z." and a pattern's word has letters, points, * and ? alone. */
    private static void letters() {
        for (int value = 33; value < 256; value++) {
            String one = "" + (char) value;
            boolean letter = value >= 'a' && value <= 'z';
            DESK.anew();
            if (letter || ".*?".indexOf(value) >= 0) {
                DESK.command("monitor " + one, 0);
            } else {
                DESK.badCommand("monitor " + one, 1, 8);
            }
            if (letter) {
                DESK.method("m." + one + "(0)=1", 0);
                DESK.method(one + ".m" + one + "(0)=1", 1);
            } else {
                DESK.badMethod("m." + one + "(0)=1", 1, 0);
            }
        }
    }

    /** "EXPRESSIONS (no blanks within)", and "A METHOD is told, without blanks". */
    private static void noBlanksWithin() {
        String text = "m.f(3)=a+(b?-1:!2)#3*c<44";
        for (int at = 3; at <= text.length(); at++) {
            DESK.anew().badMethod(text.substring(0, at) + " " + text.substring(at), 1, at);
        }
        DESK.anew().badMethod(" " + text, 1, 0);
        DESK.method(text, 0);
        DESK.anew().badCommand("watch enter * a+ 1", 1, 16);
        DESK.badCommand("watch enter * (a )", 1, 16);
        DESK.badCommand("watch enter * 1 a? 1:2", 1, 18);
        DESK.badMethod("m.g(0)=m.g( )", 1, 11);
        DESK.badMethod("m.g(0)=m.g ()", 1, 10);
        DESK.badMethod("m.g(0)=m.g(1 ,2)", 1, 12);
        DESK.badMethod("m.g(0)=m.g(1, 2)", 1, 13);
    }

    /** "of up to 20 NODES (numbers, variables, signs, names)"; "3 the 21st node of an expression (at its first byte)". */
    private static void twentyNodes() {
        String[] nodes = {"1", "a", "m.f()", "m.f(1)"};
        for (String node : nodes) {
            int sub = node.equals("m.f(1)") ? 1 : 0;
            DESK.anew().method("m.f(1)=" + times("-", 19 - sub) + node, 0);
            DESK.badMethod("m.g(1)=" + times("-", 20) + node, 3, 27);
            DESK.badMethod("m.g(1)=" + times("!", 20) + node, 3, 27);
        }
        DESK.anew().badMethod("m.f(1)=" + times("-", 19) + "m.f(1)", 3, 30);
        DESK.badMethod("m.f(1)=" + times("-", 20) + "-", 3, 27);
        DESK.badMethod("m.f(1)=" + times("-", 20) + "!1", 3, 27);
        for (char sign : (SIGNS_BETWEEN + "?").toCharArray()) {
            DESK.anew().badMethod("m.f(0)=-" + TEN_ONES + sign + "1", 3, 27);
            DESK.badMethod("m.f(0)=-" + TEN_ONES + sign, 3, 27);
            DESK.badMethod("m.f(0)=" + TEN_ONES + sign + "1", 3, 27);
            DESK.badMethod("m.f(0)=" + TEN_ONES + sign, 1, 27);
        }
        DESK.anew();
        DESK.badCommand("watch enter * " + times("-", 20) + "k", 3, 34);
        DESK.badCommand("watch enter * 1 " + times("-", 20) + "k", 3, 36);
        DESK.command("watch enter * " + times("-", 19) + "k " + times("-", 19) + "k 20", 0);
        DESK.method("m.f(0)=((((1))))+((((1))))+(1)+(1)+(1)+(1)+(1)+(1)+(1)+(-1)", 0);
        DESK.badMethod("m.g(0)=((((1))))+((((1))))+(1)+(1)+(1)+(1)+(1)+(1)+(1)+(-1)+(1)", 3, 59);
    }

    private static void twentyNodesHaveAValue() {
        DESK.anew();
        DESK.method("m.f(0)=-(" + TEN_ONES + ")", 0);
        DESK.method("m.g(0)=1+(1+(1+(1+(1+(1+(1+(1+(1+-1))))))))", 1);
        DESK.method("m.h(0)=" + times("-", 19) + "5", 2);
        DESK.method("m.i(0)=" + times("!1#", 6) + "-7", 3);
        DESK.method("m.j(1)=a?0?1:0?2:0?3:0?4:0?5:-6:7", 4);
        DESK.method("m.k(1)=m.k(1,a,m.k(1,a,m.k(1,a,m.k(1,a,m.k(1,a,m.k(a,2))))))", 5);
        DESK.method("m.k(2)=a*10+b", 6);
        DESK.method("m.k(3)=a+b+c", 7);
        DESK.call(0, 0, 0, 0, 0, -10);
        DESK.call(1, 0, 0, 0, 0, 8);
        DESK.call(2, 0, 0, 0, 0, -5);
        DESK.call(3, 0, 0, 0, 0, -7);
        DESK.call(4, 1, 0, 0, 0, -6);
        DESK.call(4, 0, 0, 0, 0, 7);
        DESK.call(5, 4, 0, 0, 0, 42 + 5 * 5);
        // what waits for a value waits at all ten depths at once
        DESK.anew();
        DESK.method("m.f(0)=1+(1+(1+(1+(1+(1+(1+(1+(m.f()#0))))))))", 0);
        DESK.method("m.g(3)=a?m.g(a-1,b,m.h(1,2,m.h(1,2,m.h(1,2,c))))#c:c", 1);
        DESK.method("m.h(3)=a+b+c", 2);
        DESK.command("watch enter * 1+(2+(3+(4+(5+(6+(7+(8+(9+k))))))))", 0);
        DESK.call(0, 0, 0, 0, 0, 80);
        DESK.record(9, 0, 0, 54, 0, 10);
        DESK.call(1, 8, 0, 5, 0, 5 + 8 * 9);
    }

    /** "from the loosest to the closest": each kind next to each other one. */
    private static void kindsFromLoosestToClosest() {
        returns("!1#0?2:3", 0, 0, 0, 3);
        returns("1?2:!3#4", 0, 0, 0, 2);
        returns("0?2:!3#4", 0, 0, 0, 4);
        returns("1?!2#5:3", 0, 0, 0, 5);
        returns("0?1:2?3:4", 0, 0, 0, 3);
        returns("1?0?1:2:4", 0, 0, 0, 2);
        returns("1<2?3:4", 0, 0, 0, 3);
        returns("1?3<4:5", 0, 0, 0, 1);
        returns("0?3:5<4", 0, 0, 0, 0);
        returns("1+2<4", 0, 0, 0, 1);
        returns("4>1+2", 0, 0, 0, 1);
        returns("3=1+2", 0, 0, 0, 1);
        returns("2+3*4-5", 0, 0, 0, 9);
        returns("20-6-3+1", 0, 0, 0, 12);
        returns("20-6/3%4*5", 0, 0, 0, 10);
        returns("-2*-3", 0, 0, 0, 6);
        returns("2--3", 0, 0, 0, 5);
        returns("-2+5", 0, 0, 0, 3);
        throwing("!2*3", 0, 0, 0, 2);
        throwing("!(2*3)", 0, 0, 0, 6);
        throwing("!-2", 0, 0, 0, -2);
        DESK.anew();
        String[] kind3 = {"<", "=", ">"};
        for (String first : kind3) {
            for (String second : kind3) {
                DESK.badMethod("m.f(0)=1" + first + "2" + second + "3", 1, 10);
            }
        }
        DESK.badMethod("m.f(0)=1?2", 1, 10);
        DESK.badMethod("m.f(0)=1?2#3", 1, 12);
        DESK.badMethod("m.f(0)=1?2:3?4", 1, 14);
        DESK.badMethod("m.f(0)=1#", 1, 9);
        DESK.badMethod("m.f(0)=-", 1, 8);
        DESK.badMethod("m.f(0)=-*1", 1, 8);
    }

    /** "a number (figures, up to 2147483647)"; "2 a number that is too great (its first byte)". */
    private static void numbersUpTo2147483647() {
        DESK.anew();
        DESK.method("m.f(0)=2147483647", 0);
        DESK.method("m.g(0)=0", 1);
        DESK.method("m.h(0)=000", 2);
        String[] great = {"2147483648", "2147483650", "2147483700", "3000000000", "4294967295", "4294967296", "4294967297", "9999999999",
            "10000000000", "9223372036854775807", "9223372036854775808", "18446744073709551616", "18446744073709551617", times("9", 100)};
        for (String number : great) {
            DESK.badMethod("m.i(0)=" + number, 2, 7);
        }
        DESK.badMethod("m.i(0)=1+002147483648+", 2, 9);
        DESK.badMethod("m.i(0)=m.f(2147483647,2147483648)", 2, 22);
        DESK.command("watch enter * 2147483647 2147483647", 0);
        DESK.badCommand("watch enter * 2147483648 1", 2, 14);
        DESK.badCommand("watch enter * 1 2147483648", 2, 16);
        DESK.call(0, 0, 0, 0, 0, MAX);
        DESK.call(1, 0, 0, 0, 0, 0);
        DESK.call(2, 0, 0, 0, 0, 0);
        DESK.record(0, 0, 0, MAX, 0, 1);
    }

    /** "a VARIABLE (one letter, with no letter or point beside it)"; "4 a variable that is none there". */
    private static void variablesAlone() {
        for (char letter = 'a'; letter <= 'z'; letter++) {
            DESK.anew();
            for (int parameters = 0; parameters <= 3; parameters++) {
                String text = "m.f(" + parameters + ")=" + letter;
                if (letter < 'a' + parameters) {
                    DESK.method(text, parameters - (letter - 'a') - 1);
                } else {
                    DESK.badMethod(text, 4, 7);
                }
            }
            if ("abcrxnk".indexOf(letter) >= 0) {
                DESK.command("watch enter * " + letter + " " + letter, 0);
            } else {
                DESK.badCommand("watch enter * " + letter, 4, 14);
                DESK.badCommand("watch enter * 1 " + letter, 4, 16);
            }
        }
        DESK.anew();
        String[] none = {"aa", "ab", "a.", ".a", ".", "..", "abc", "a.b.c", "a..b", ".a.b", "a.b."};
        for (String row : none) {
            DESK.badMethod("m.f(3)=" + row, 1, 7);
            DESK.badMethod("m.f(3)=1+" + row + "()", 1, 9);
            DESK.badCommand("watch enter * " + row, 1, 14);
        }
        DESK.badMethod("m.f(3)=aB", 1, 8);
        DESK.badMethod("m.f(3)=a1", 1, 8);
        DESK.badMethod("m.f(3)=1a", 1, 8);
        DESK.badMethod("m.f(3)=(a)b", 1, 10);
    }

    /** "a NAME (two or more letters and points, one point, not at an end, 12 at most)"; "3 the 13th byte of a name". */
    private static void namesOfTwelve() {
        DESK.anew();
        DESK.method("a.b(0)=1", 0);
        DESK.method("a.bcdefghijk(0)=2", 1);
        DESK.method("abcdefghij.k(0)=3", 2);
        DESK.method("abcdefghij.l(0)=4", 3);
        DESK.method("bbcdefghij.k(0)=5", 4);
        DESK.method("z.a(0)=a.bcdefghijk()*1000+abcdefghij.k()*100+abcdefghij.l()*10+bbcdefghij.k()", 5);
        DESK.call(5, 0, 0, 0, 0, 2345);
        DESK.badMethod("a.bcdefghijkl(0)=1", 3, 12);
        DESK.badMethod("abcdefghijk.l(0)=1", 3, 12);
        DESK.badMethod("abcdefghijkl.m(0)=1", 3, 12);
        DESK.badMethod("a.bcdefghijkl", 3, 12);
        DESK.badMethod("a." + times("b", 198), 3, 12);
        DESK.badMethod("z.b(0)=1+a.bcdefghijkl()", 3, 21);
        DESK.badMethod("z.b(0)=a.bcdefghijkl", 3, 19);
        DESK.badMethod("z.b(0)=a.b(abcdefghijk.l())", 3, 23);
        String[] none = {"", "a", "ab", ".", ".b", "a.", "..", "a..b", "a.b.c", ".a.b", "a.b."};
        for (String name : none) {
            DESK.badMethod(name + "(0)=1", 1, 0);
        }
        // a point is not any letter, wherever it stands
        DESK.anew();
        DESK.method("a.zb(0)=1", 0);
        DESK.method("az.b(0)=2", 1);
        DESK.method("a.ab(0)=3", 2);
        DESK.method("aa.b(0)=4", 3);
        DESK.method("z.a(0)=a.zb()*1000+az.b()*100+a.ab()*10+aa.b()", 4);
        DESK.call(4, 0, 0, 0, 0, 1234);
    }

    /** "( and up to three expressions with commas between and )"; "3 the fourth one in a name's ( ) (at its first byte)". */
    private static void threeExpressionsOfAName() {
        DESK.anew();
        DESK.method("m.f(0)=m.g()", 0);
        DESK.method("m.f(1)=m.g(1)", 1);
        DESK.method("m.f(2)=m.g(1,2)", 2);
        DESK.method("m.f(3)=m.g(1,2,3)", 3);
        String[] fourth = {"4", "c", "(4)", "-4", "!4", "m.g()"};
        for (String expression : fourth) {
            DESK.badMethod("m.h(3)=m.g(1,2,3," + expression + ")", 3, 17);
        }
        DESK.badMethod("m.h(0)=m.g(1,2,m.g(1,2,3),4)", 3, 26);
        DESK.badMethod("m.h(0)=m.g(1,2,m.g(1,2,3,4))", 3, 25);
        DESK.method("m.h(0)=m.g(m.g(1,2,3),m.g(1,2,3),m.g(1,2,3))", 4);
        DESK.badMethod("m.i(0)=m.g(1,2,3", 1, 16);
        DESK.badMethod("m.i(0)=m.g(,", 1, 11);
        DESK.badMethod("m.i(0)=m.g(1,)", 1, 13);
        DESK.badMethod("m.i(0)=(1,2)", 1, 9);
        DESK.badMethod("m.i(0)=m.g", 1, 10);
    }

    /** "3 the 13th ( that is open in one". */
    private static void twelveOpenBrackets() {
        DESK.anew();
        DESK.method("m.f(0)=" + times("(", 12) + "7" + times(")", 12), 0);
        DESK.call(0, 0, 0, 0, 0, 7);
        DESK.badMethod("m.g(0)=" + times("(", 13) + "7" + times(")", 13), 3, 19);
        DESK.badMethod("m.g(0)=" + times("(", 12) + "7" + times(")", 11), 1, 31);
        DESK.badMethod("m.g(0)=" + times("(", 12) + "7" + times(")", 13), 1, 32);
        DESK.method("m.g(0)=" + times("(", 12) + "7" + times(")", 12) + "+" + times("(", 12) + "8" + times(")", 12), 1);
        DESK.call(1, 0, 0, 0, 0, 15);
        DESK.method("m.h(0)=" + times("(", 11) + "(1)+(2)" + times(")", 11), 2);
        DESK.badMethod("m.i(0)=" + times("(", 11) + "(1)+((2))" + times(")", 11), 3, 23);
        DESK.method("m.i(0)=" + times("m.f()+", 9) + times("(", 12) + "1" + times(")", 12), 3);
        DESK.anew();
        DESK.command("watch enter * " + times("(", 12) + "7" + times(")", 12) + " " + times("(", 12) + "7" + times(")", 12), 0);
        DESK.badCommand("watch enter * " + times("(", 13) + "7", 3, 26);
        DESK.badCommand("watch enter * 1 " + times("(", 13) + "7", 3, 28);
    }

    /** "VALUES are ints (wrapping)". */
    private static void wrappingValues() {
        returns("a+b", MAX, 1, 0, MIN);
        returns("a+b", MIN, -1, 0, MAX);
        returns("a-b", MIN, 1, 0, MAX);
        returns("a-b", 0, MIN, 0, MIN);
        returns("a*b", MAX, 2, 0, -2);
        returns("a*b", MIN, -1, 0, MIN);
        returns("a*b", 65536, 65536, 0, 0);
        returns("a/b", MIN, -1, 0, MIN);
        returns("a%b", MIN, -1, 0, 0);
        returns("-a", MIN, 0, 0, MIN);
        returns("-2147483647-1", 0, 0, 0, MIN);
        throwing("!(a+b)", MAX, 1, 0, MIN);
    }

    /** "of + - * / % as usual, cut off". */
    private static void cutOff() {
        returns("a/b", 7, 2, 0, 3);
        returns("a/b", -7, 2, 0, -3);
        returns("a/b", 7, -2, 0, -3);
        returns("a/b", -7, -2, 0, 3);
        returns("a/b", 1, 2, 0, 0);
        returns("a%b", 7, 2, 0, 1);
        returns("a%b", -7, 2, 0, -1);
        returns("a%b", 7, -2, 0, 1);
        returns("a%b", -7, -2, 0, -1);
        returns("a/b", 7, 1, 0, 7);
        returns("a/b", 7, -1, 0, -7);
        returns("a%b", 7, 1, 0, 0);
        returns("a%b", 7, -1, 0, 0);
        returns("a/b", MAX, MAX, 0, 1);
        returns("a%b", 6, MIN, 0, 6);
        returns("a/b", 0, 5, 0, 0);
        returns("a%b", 0, 5, 0, 0);
    }

    /** "/ and % by 0 throw -1." */
    private static void byZero() {
        int[] over = {0, 1, -1, MIN, MAX};
        for (int a : over) {
            throwing("a/b", a, 0, 0, -1);
            throwing("a%b", a, 0, 0, -1);
            returns("a/b#5", a, 0, 0, 5);
            returns("7+(a%b#5)", a, 0, 0, 12);
        }
        throwing("1/(2-2)", 0, 0, 0, -1);
        throwing("a/b/c", 6, 2, 0, -1);
    }

    /** "of < = > 1 or 0", and of no others. */
    private static void oneOrZero() {
        int[] some = {MIN, -1, 0, 1, MAX};
        for (int a : some) {
            for (int b : some) {
                returns("(a<b)*100+(a=b)*10+(a>b)", a, b, 0, a < b ? 100 : a == b ? 10 : 1);
            }
        }
    }

    /** "of ?: the second if the first isn't 0, else the third (the other one is not looked at)". */
    private static void theOtherOneIsNotLookedAt() {
        int[] yes = {1, -1, MIN, MAX};
        for (int a : yes) {
            returns("a?b:c", a, 5, 6, 5);
        }
        returns("a?b:c", 0, 5, 6, 6);
        returns("a?b:!c", 1, 5, 6, 5);
        returns("a?!b:c", 0, 5, 6, 6);
        DESK.anew();
        DESK.method("m.f(1)=a?m.g():m.h()", 0);
        DESK.method("m.g(0)=1", 1);
        DESK.method("m.h(0)=2", 2);
        DESK.command("monitor *", 0);
        DESK.call(0, 7, 0, 0, 0, 1);
        DESK.due("invoked", DESK.console.invoked(), 2);
        DESK.due("the third is not looked at", DESK.console.counted(0, 2, 0), 0);
        DESK.call(0, 0, 0, 0, 0, 2);
        DESK.due("invoked", DESK.console.invoked(), 2);
        DESK.due("the second is not looked at", DESK.console.counted(0, 1, 0), 1);
    }

    /** "#: that has the value on its left, or, if this throws, that on its right". */
    private static void theRightOfAHolderIsNotLookedAt() {
        DESK.anew();
        DESK.method("m.f(1)=m.g(a)#m.h()#m.h()", 0);
        DESK.method("m.g(1)=a?a:!8", 1);
        DESK.method("m.h(0)=6", 2);
        DESK.method("m.i(0)=!1#!2#!3", 3);
        DESK.method("m.j(0)=m.g(0)#!2", 4);
        DESK.call(0, 5, 0, 0, 0, 5);
        DESK.due("invoked", DESK.console.invoked(), 2);
        DESK.call(0, 0, 0, 0, 0, 6);
        DESK.due("invoked", DESK.console.invoked(), 3);
        DESK.call(3, 0, 0, 0, 1, 3);
        DESK.call(4, 0, 0, 0, 1, 2);
        returns("0#5", 0, 0, 0, 0);
        returns("!0#5", 0, 0, 0, 5);
    }

    /** "What throws ends all in which it stands, up to #". */
    private static void throwsEndAllInWhichTheyStand() {
        String[] within = {"!7", "-!7", "!!7", "!7+1", "1+!7", "!7-!8", "2*!7", "!7/0", "1/!7", "!7%2", "!7<1", "1<!7", "1=!7", "!7>!8",
            "!7?1:2", "1?!7:2", "0?1:!7", "(!7)", "1+(2*(3-!7))", "t.t(!7,1,2)", "t.t(1,!7,!8)", "t.t(1,2,!7+!8)"};
        for (String expression : within) {
            throwing(expression, 0, 0, 0, 7);
            returns(expression + "#9", 0, 0, 0, 9);
            returns("1+(" + expression + "#9)*2", 0, 0, 0, 19);
            throwing("!5#(" + expression + ")", 0, 0, 0, 7);
            returns("5#(" + expression + ")", 0, 0, 0, 5);
        }
        String[] beside = {"!7+(1#2)", "(1#2)+!7", "!7*(1#(2#3))", "(!7)/(!1#2)", "!7?(1#2):3", "1?!7:(2#3)", "0?(1#2):!7", "t.t(!7,1#2,3)",
            "t.t(1#2,!7,3#4)", "(1#2)+(3#4)*!7", "-!7+(!1#2)"};
        for (String expression : beside) {
            throwing(expression, 0, 0, 0, 7);
            returns("1+(2+(" + expression + "#9))", 0, 0, 0, 12);
        }
    }

    /** "A name INVOKES the method with this name and so many parameters". */
    private static void soManyParameters() {
        DESK.anew();
        DESK.method("m.f(3)=1000+a*100+b*10+c", 0);
        DESK.method("m.f(1)=2000+a", 1);
        DESK.method("m.f(0)=3000", 2);
        DESK.method("m.f(2)=4000+a*10+b", 3);
        DESK.method("x.a(0)=m.f()", 4);
        DESK.method("x.b(0)=m.f(7)", 5);
        DESK.method("x.c(0)=m.f(7,8)", 6);
        DESK.method("x.d(0)=m.f(7,8,9)", 7);
        DESK.call(4, 0, 0, 0, 0, 3000);
        DESK.call(5, 0, 0, 0, 0, 2007);
        DESK.call(6, 0, 0, 0, 0, 4078);
        DESK.call(7, 0, 0, 0, 0, 1789);
    }

    /** "-4, if there is none such." */
    private static void noneSuch() {
        DESK.anew();
        DESK.method("m.f(1)=m.f()", 0);
        DESK.method("m.g(0)=m.f(1,2)", 1);
        DESK.method("m.h(0)=m.ff(1)", 2);
        DESK.method("m.i(0)=m.later()+1", 3);
        DESK.method("m.j(0)=m.none()#5", 4);
        DESK.command("watch throw * x", 0);
        DESK.command("monitor *", 1);
        for (int method = 0; method < 4; method++) {
            DESK.call(method, 1, 0, 0, 1, -4);
            DESK.due("what is not there is no invocation", DESK.console.invoked(), 1);
            DESK.record(method, 0, method, -4, 0, 1);
            DESK.due("throws", DESK.console.counted(1, method, 2), 1);
        }
        DESK.call(4, 0, 0, 0, 0, 5);
        DESK.method("m.later(0)=9", 5);
        DESK.call(3, 0, 0, 0, 0, 10);
    }

    /** "with the values of its expressions (from left to right)". */
    private static void fromLeftToRight() {
        DESK.anew();
        DESK.method("m.f(0)=m.g(m.a(),m.b(),m.c())", 0);
        DESK.method("m.g(3)=a*100+b*10+c", 1);
        DESK.method("m.a(0)=1", 2);
        DESK.method("m.b(0)=2", 3);
        DESK.method("m.c(0)=3", 4);
        DESK.method("m.h(0)=m.g(!1,!2,!3)", 5);
        DESK.method("m.i(0)=m.g(1,!2,!3)", 6);
        DESK.command("watch enter * n", 0);
        DESK.call(0, 0, 0, 0, 0, 123);
        int[] order = {0, 2, 3, 4, 1};
        for (int i = 0; i < order.length; i++) {
            DESK.record(i, 0, order[i], i == 0 ? 1 : 2, 0, i == 0 ? 1 : 2);
        }
        DESK.call(5, 0, 0, 0, 1, 1);
        DESK.call(6, 0, 0, 0, 1, 2);
    }

    /** "the number of its parameters (0 to 3)". */
    private static void parametersFrom0To3() {
        DESK.anew();
        for (int parameters = 0; parameters <= 3; parameters++) {
            DESK.method("m.f(" + parameters + ")=1", parameters);
        }
        String[] none = {"4", "5", "9", "", "-1", "a", "(", "+0", " 0", "*"};
        for (String parameters : none) {
            DESK.badMethod("m.g(" + parameters + ")=1", 1, 4);
        }
        DESK.badMethod("m.g(0", 1, 5);
        DESK.badMethod("m.g(0,", 1, 5);
        DESK.badMethod("m.g(0)", 1, 6);
        DESK.badMethod("m.g(0)1", 1, 6);
        DESK.badMethod("m.g(0)=", 1, 7);
    }

    /** "16 methods at most"; "5 ... no room for one", "at the end, at the tape's length". */
    private static void sixteenMethods() {
        DESK.anew();
        for (int i = 0; i < 16; i++) {
            DESK.method("m." + (char) ('a' + i) + "(1)=a>999?m.z(a):a+" + i, i);
        }
        DESK.badMethod("m.z(1)=a", 5, 8);
        DESK.badMethod("m.z(1)=a+1+1", 5, 12);
        DESK.badMethod("m.z(1)=a+", 1, 9);
        DESK.badMethod("m.z(1)=z", 4, 7);
        for (int i = 0; i < 16; i++) {
            DESK.call(i, 100, 0, 0, 0, 100 + i);
        }
        DESK.call(15, 1000, 0, 0, 1, -4);
        DESK.bounds("a 17th", () -> DESK.console.call(16, 0, 0, 0));
    }

    /** "no two with the same name and number"; "5 there is such a method". */
    private static void noTwoTheSame() {
        DESK.anew();
        DESK.method("m.f(1)=a", 0);
        DESK.badMethod("m.f(1)=a+1", 5, 10);
        DESK.badMethod("m.f(1)=1", 5, 8);
        DESK.badMethod("m.f(1)=b", 4, 7);
        DESK.method("m.f(2)=a+2", 1);
        DESK.method("m.f(0)=3", 2);
        DESK.method("m.f(3)=4", 3);
        DESK.method("f.m(1)=5", 4);
        DESK.method("m.fm(1)=6", 5);
        DESK.method("mm.f(1)=7", 6);
        for (int parameters = 0; parameters <= 3; parameters++) {
            DESK.badMethod("m.f(" + parameters + ")=9", 5, 8);
        }
        DESK.call(0, 50, 0, 0, 0, 50);
        DESK.call(1, 50, 0, 0, 0, 52);
    }

    /** "It throws -2 at once if its depth is above 10". */
    private static void depthAbove10() {
        DESK.anew();
        DESK.method("m.f(1)=a>1?m.f(a-1):77", 0);
        DESK.method("m.g(1)=a>1?m.g(a-1):m.h()#6", 1);
        DESK.method("m.h(0)=5", 2);
        DESK.method("m.i(0)=m.j()#4", 3);
        DESK.method("m.j(0)=m.f(8)+m.f(9)", 4);
        DESK.command("watch enter * n n>9", 0);
        DESK.call(0, 10, 0, 0, 0, 77);
        DESK.due("ten deep", DESK.console.invoked(), 10);
        DESK.due("the tenth is seen", DESK.console.records(), 1);
        DESK.call(0, 11, 0, 0, 1, -2);
        DESK.due("the eleventh is no invocation", DESK.console.invoked(), 10);
        DESK.due("it is not seen", DESK.console.records(), 2);
        DESK.call(1, 9, 0, 0, 0, 5);
        DESK.call(1, 10, 0, 0, 0, 6);
        DESK.call(3, 0, 0, 0, 0, 4);
        DESK.due("invocations up to where it is too deep", DESK.console.invoked(), 2 + 8 + 8);
        DESK.method("m.k(3)=m.k(a+1,b+2,c+3)#a*10000+b*100+c", 5);
        DESK.call(5, 1, 2, 3, 0, 10 * 10000 + 20 * 100 + 30);
    }

    /** "and -3 if it is the 1001st of the call from outside". */
    private static void the1001stInvocation() {
        DESK.anew();
        DESK.method("m.a(0)=1", 0);
        // 10, 100 and 1000 invocations with what lies within: m.b, m.c and m.e
        DESK.method("m.b(0)=m.a()+m.a()+m.a()+m.a()+m.a()+m.a()+m.a()+m.a()+m.a()", 1);
        DESK.method("m.c(0)=m.b()+m.b()+m.b()+m.b()+m.b()+m.b()+m.b()+m.b()+m.b()+m.d()", 2);
        DESK.method("m.d(0)=m.a()+m.a()+m.a()+m.a()+m.a()+m.a()+m.a()+m.a()", 3);
        DESK.method("m.e(0)=m.c()+m.c()+m.c()+m.c()+m.c()+m.c()+m.c()+m.c()+m.c()+m.f()", 4);
        DESK.method("m.f(0)=m.b()+m.b()+m.b()+m.b()+m.b()+m.b()+m.b()+m.b()+m.b()+m.g()", 5);
        DESK.method("m.g(0)=m.a()+m.a()+m.a()+m.a()+m.a()+m.a()+m.a()", 6);
        DESK.method("m.h(0)=m.e()", 7);
        DESK.method("m.i(0)=m.e()+0*m.x()", 8);
        DESK.call(1, 0, 0, 0, 0, 9);
        DESK.due("invoked", DESK.console.invoked(), 10);
        DESK.call(2, 0, 0, 0, 0, 89);
        DESK.due("invoked", DESK.console.invoked(), 100);
        DESK.call(4, 0, 0, 0, 0, 889);
        DESK.due("a thousand", DESK.console.invoked(), 1000);
        DESK.call(7, 0, 0, 0, 1, -3);
        DESK.due("one too many", DESK.console.invoked(), 1000);
        DESK.call(8, 0, 0, 0, 1, -3);
        DESK.due("one too many", DESK.console.invoked(), 1000);
        DESK.call(0, 0, 0, 0, 0, 1);
        DESK.due("each call from outside has its own", DESK.console.invoked(), 1);
        DESK.call(4, 0, 0, 0, 0, 889);
    }

    /** "-3 ..., which no # holds", but a # holds -2, and a -3 that a method throws by itself. */
    private static void the1001stIsNotHeld() {
        String[] held = {"t.m()#5", "(t.m()#5)#6", "1+(t.m()#5)", "t.h(t.m()#5)#6", "t.m()#t.m()#7", "1?t.m()#5:6", "t.h(1,t.m())#!5"};
        for (String expression : held) {
            DESK.anew();
            DESK.method("t.f(0)=" + expression, 0);
            DESK.method("t.m(0)=t.m()+t.m()+t.m()#1", 1);
            DESK.method("t.h(1)=a", 2);
            DESK.call(0, 0, 0, 0, 1, -3);
            DESK.due("invoked", DESK.console.invoked(), 1000);
        }
        DESK.anew();
        DESK.method("t.f(0)=t.g()#5", 0);
        DESK.method("t.g(0)=!-3", 1);
        DESK.method("t.h(0)=t.h()#6", 2);
        DESK.method("t.m(0)=t.m()+t.m()#1", 3);
        DESK.call(0, 0, 0, 0, 0, 5);
        DESK.call(2, 0, 0, 0, 0, 6);
        DESK.call(3, 0, 0, 0, 1, -3);
        DESK.call(0, 0, 0, 0, 0, 5);
        DESK.call(2, 0, 0, 0, 0, 6);
    }

    /** "(Of these two no probe sees anything, and they are not counted.)" */
    private static void unseenAndUncounted() {
        ProbeConsole x = DESK.anew().console;
        DESK.method("m.f(0)=m.g()", 0);
        DESK.method("m.g(0)=m.f()", 1);
        DESK.method("m.h(0)=m.h()+m.h()#1", 2);
        DESK.command("monitor *", 0);
        DESK.command("watch enter * n", 1);
        DESK.command("watch throw * x*100+n", 2);
        DESK.command("keep *", 3);
        DESK.call(0, 0, 0, 0, 1, -2);
        DESK.due("invocations of m.f", x.counted(0, 0, 0), 5);
        DESK.due("throws of m.f", x.counted(0, 0, 2), 5);
        DESK.due("invocations of m.g", x.counted(0, 1, 0), 5);
        DESK.due("returns of m.g", x.counted(0, 1, 1), 0);
        DESK.due("records", x.records(), 20);
        DESK.record(10, 2, 1, -190, 0, 10);
        DESK.due("keeps", x.keeps(), 10);
        DESK.kept(0, 3, 1, 0, 0, 0, 1, -2);
        DESK.due("invoked", x.invoked(), 10);
        DESK.call(2, 0, 0, 0, 1, -3);
        DESK.due("invoked", x.invoked(), 1000);
        DESK.due("invocations", x.counted(0, 2, 0), 1000);
        DESK.due("returns and throws", x.counted(0, 2, 1) + x.counted(0, 2, 2), 1000);
    }
}
