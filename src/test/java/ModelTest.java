import java.nio.charset.StandardCharsets;
import java.util.Random;

/** Runs of calls, made by chance from fixed seeds, on the console and on the model: all promises. */
final class ModelTest {
    private static final int RUNS = 12000;
    /** The document tells nothing of an object behind these, so no run goes further. */
    private static final int MOST_CALLS = 512;
    /** What is left for looking at the lists, and for the longest text that a step may feed. */
    private static final int LAST_CALLS = 200;
    private static final int TEXT_CALLS = 30;
    private static final String[] NAMES = {"m.f", "m.g", "x.f", "ab.cd", "ab.ce", "z.long", "abcdef.ghijk", "m.none"};
    private static final String[] PATTERNS = {"*", "m.*", "*.f", "?.?", "ab.c?", "*.*", "a*.*d", "**", "x.f", "*o*", "?*g", "abcdef.ghijk"};
    /** These go on until an invocation is too deep, or one too many. */
    private static final String[] BRANCHING = {"m.f(1)=m.f(a-1)+m.f(a-1)#7", "m.g(2)=m.g(b,a)+m.g(a,b+1)#m.g(a,a)", "x.f(0)=x.f()*2#m.f(3)",
        "ab.cd(1)=a>0?ab.cd(a-1)+ab.cd(a-2)+m.f(a)#a:!a", "m.f(2)=m.f(a/b,b-1)#!b", "z.long(3)=(z.long(b,c,a+1)#z.long(a,b,c))*m.g(a,c)"};
    private static final String BYTES = "abcxknr.m0129()?:#<=>+-*/%!, \t~A";

    private final Random chance;
    private final ProbeConsole console = new ProbeConsole();
    private final Model model = new Model();
    private final StringBuilder story = new StringBuilder();
    private int calls = 0;
    private int wrong = 0;

    private ModelTest(long seed) {
        chance = new Random(seed);
    }

    public static void main(String[] args) {
        int runs = args.length > 0 ? Integer.parseInt(args[0]) : RUNS;
        long[] seen = new long[16];
        for (int seed = 0; seed < runs; seed++) {
            ModelTest test = new ModelTest(seed);
            test.run();
            if (test.wrong > 0) {
                System.out.println("seed " + seed + ":\n" + test.story);
                System.exit(1);
            }
            test.tally(seen);
        }
        for (int fault = 1; fault <= 5; fault++) {
            if (seen[fault] == 0) {
                System.out.println("no run met fault " + fault);
                System.exit(1);
            }
        }
        System.out.println("ModelTest: " + runs + " runs as the model's; faults " + seen[1] + " " + seen[2] + " " + seen[3]
                + " " + seen[4] + " " + seen[5] + ", records " + seen[6] + ", kept " + seen[7] + ", stopped calls " + seen[8]
                + ", full lists " + seen[9] + " " + seen[10]);
    }

    private final long[] met = new long[16];

    private void tally(long[] seen) {
        for (int i = 0; i < seen.length; i++) {
            seen[i] += met[i];
        }
    }

    private void run() {
        int steps = 20 + chance.nextInt(100);
        for (int i = 0; i < steps && wrong == 0 && calls < MOST_CALLS - LAST_CALLS - TEXT_CALLS; i++) {
            int kind = chance.nextInt(i < 12 ? 8 : 24);
            if (kind < 5) {
                text(true);
            } else if (kind < 8) {
                text(false);
            } else if (kind < 21) {
                call();
            } else if (kind == 21) {
                replay();
            } else if (kind == 22) {
                if (chance.nextInt(6) == 0) {
                    due("clear()", console.clear(), model.clear());
                }
            } else if (chance.nextInt(3) == 0) {
                again();
            }
            compareState();
        }
        compareJobs();
        compareLists();
    }

    /** One call of the console, and the model's answer. */
    private void due(String what, long got, long want) {
        calls++;
        story.append(what).append(" -> ").append(got).append('\n');
        if (got != want) {
            wrong++;
            story.append("   BUT DUE IS ").append(want).append('\n');
        }
    }

    private void text(boolean method) {
        String text = method ? methodText() : commandText();
        int turn = chance.nextInt(10);
        if (turn < 3) {
            text = spoilt(text);
        } else if (turn == 3 && chance.nextInt(4) == 0) {
            text = junk();
        }
        if (text.length() > 200) {
            text = text.substring(0, 200);
        }
        due("wipe()", console.wipe(), model.wipe());
        byte[] bytes = text.getBytes(StandardCharsets.ISO_8859_1);
        for (int i = 0; i < bytes.length; i += 8) {
            int n = Math.min(8, bytes.length - i);
            long word = chance.nextLong() << 1 << 8 * n - 1;
            for (int k = 0; k < n; k++) {
                word |= (bytes[i + k] & 255L) << 8 * k;
            }
            due("feed", console.feed(n, word), model.feed(n, word));
        }
        if (chance.nextInt(40) == 0) {
            method = !method;
        }
        tell(method, text);
    }

    private void again() {
        tell(chance.nextBoolean(), "the same");
    }

    private void tell(boolean method, String text) {
        if (method) {
            due("method() " + text, console.method(), model.method());
        } else {
            due("command() " + text, console.command(), model.command());
        }
        due("fault()", console.fault(), model.fault);
        due("place()", console.place(), model.place);
        met[model.fault]++;
    }

    private void call() {
        if (model.methodCount() == 0) {
            return;
        }
        int method = chance.nextInt(model.methodCount());
        int a = number();
        int b = number();
        int c = number();
        due("call(" + method + ", " + a + ", " + b + ", " + c + ")", console.call(method, a, b, c), model.call(method, a, b, c));
        met[8] += model.value == -3 && model.invoked == 1000 ? 1 : 0;
    }

    private void replay() {
        if (!model.keeps.isEmpty()) {
            int i = chance.nextInt(model.keeps.size());
            due("replay(" + i + ")", console.replay(i), model.replay(i));
        }
    }

    private int number() {
        switch (chance.nextInt(8)) {
            case 0:
                return 0;
            case 1:
                return chance.nextInt();
            case 2:
                return chance.nextBoolean() ? Integer.MIN_VALUE : -1;
            default:
                return chance.nextInt(12) - 2;
        }
    }

    private void compareState() {
        switch (chance.nextInt(6)) {
            case 0:
                due("fault()", console.fault(), model.fault);
                due("place()", console.place(), model.place);
                break;
            case 1:
                int job = chance.nextInt(8);
                due("job(" + job + ", 0)", console.job(job, 0), model.job(job, 0));
                due("job(" + job + ", 1)", console.job(job, 1), model.job(job, 1));
                break;
            default:
                due("value()", console.value(), model.value);
                due("invoked()", console.invoked(), model.invoked);
                due("records()", console.records(), model.records.size());
                due("keeps()", console.keeps(), model.keeps.size());
                break;
        }
    }

    private void compareJobs() {
        for (int j = 0; j < 8 && wrong == 0; j++) {
            due("job(" + j + ", 0)", console.job(j, 0), model.job(j, 0));
            due("job(" + j + ", 1)", console.job(j, 1), model.job(j, 1));
            int from = chance.nextInt(3);
            for (int m = from; model.isMonitor(j) && m < 3 * model.methodCount(); m += 4) {
                due("counted(" + j + ", " + m / 3 + ", " + m % 3 + ")", console.counted(j, m / 3, m % 3), model.counted(j, m / 3, m % 3));
            }
        }
    }

    /** As many rows, from all parts of the lists, as there are calls left for. */
    private void compareLists() {
        int records = model.records.size();
        int keeps = model.keeps.size();
        met[6] += records;
        met[7] += keeps;
        met[9] += records == 300 ? 1 : 0;
        met[10] += keeps == 40 ? 1 : 0;
        while (records + keeps > 0 && wrong == 0 && calls <= MOST_CALLS - 7) {
            int i = chance.nextInt(2 * records + keeps);
            if (i < 2 * records) {
                compareRecord(i / 2);
            } else {
                compareKept(i - 2 * records);
            }
        }
    }

    private void compareRecord(int i) {
        for (int what = 0; what < 5; what++) {
            due("record(" + i + ", " + what + ")", console.record(i, what), model.records.get(i)[what]);
        }
    }

    private void compareKept(int i) {
        for (int what = 0; what < 7; what++) {
            due("kept(" + i + ", " + what + ")", console.kept(i, what), model.keeps.get(i)[what]);
        }
    }

    private String one(String[] of) {
        return of[chance.nextInt(of.length)];
    }

    private String methodText() {
        if (chance.nextInt(8) == 0) {
            return one(BRANCHING);
        }
        int parameters = chance.nextInt(4);
        return one(NAMES) + "(" + parameters + ")=" + expression(1 + chance.nextInt(11), "abc".substring(0, parameters), true);
    }

    private String commandText() {
        String blank = chance.nextInt(5) == 0 ? " \t " : " ";
        String lead = chance.nextInt(8) == 0 ? blank : "";
        switch (chance.nextInt(12)) {
            case 0:
                return lead + "kill" + blank + chance.nextInt(chance.nextInt(6) == 0 ? 120 : 9) + lead;
            case 1:
                return chance.nextInt(5) == 0 ? lead + "reset" + lead : lead + "keep" + blank + one(PATTERNS) + lead;
            case 2:
            case 3:
                return lead + "keep" + blank + one(PATTERNS) + lead;
            case 4:
            case 5:
                return lead + "monitor" + blank + one(PATTERNS) + lead;
            default:
                String[] points = {"enter", "return", "throw"};
                String text = lead + "watch" + blank + one(points) + blank + one(PATTERNS) + blank + watched();
                if (chance.nextBoolean()) {
                    text += blank + watched();
                    text += chance.nextBoolean() ? blank + chance.nextInt(chance.nextInt(6) == 0 ? 120 : 30) : "";
                }
                return text + lead;
        }
    }

    private String watched() {
        return expression(1 + chance.nextInt(8), "abcrxnk", false);
    }

    /** An expression with about so many nodes. */
    private String expression(int nodes, String variables, boolean names) {
        if (nodes <= 1) {
            return leaf(variables, names);
        }
        int left = 1 + chance.nextInt(nodes - 1);
        String first = expression(left, variables, names);
        String second = expression(nodes - left, variables, names);
        switch (chance.nextInt(12)) {
            case 0:
                return first + "#" + second;
            case 1:
                return "(" + first + "#" + second + ")";
            case 2:
                return first + "?" + second + ":" + leaf(variables, names);
            case 3:
                return "(" + first + "?" + leaf(variables, names) + ":" + second + ")";
            case 4:
                return (chance.nextInt(3) == 0 ? "!" : "-") + first;
            case 5:
                return "(" + first + ")" + sign() + "(" + second + ")";
            case 6:
            case 7:
                return names ? one(NAMES) + "(" + first + (chance.nextBoolean() ? "," + second : "") + ")" : first + sign() + second;
            case 8:
                return names ? one(NAMES) + "(" + first + "," + second + "," + leaf(variables, names)
                        + (chance.nextInt(12) == 0 ? "," + leaf(variables, names) : "") + ")" : first + sign() + second;
            default:
                return first + sign() + second;
        }
    }

    private String sign() {
        return "" + "+-*/%+-*/%+-*/%+-*/%<=>".charAt(chance.nextInt(23));
    }

    private String leaf(String variables, boolean names) {
        int turn = chance.nextInt(10);
        if (turn < 4 && !variables.isEmpty()) {
            return "" + variables.charAt(chance.nextInt(variables.length()));
        }
        if (names && turn == 4) {
            return one(NAMES) + "()";
        }
        return turn == 5 && chance.nextInt(5) == 0 ? "" + chance.nextInt(Integer.MAX_VALUE) : "" + chance.nextInt(13);
    }

    private String spoilt(String text) {
        StringBuilder spoilt = new StringBuilder(text);
        for (int n = 1 + chance.nextInt(2); n > 0 && spoilt.length() > 0; n--) {
            int at = chance.nextInt(spoilt.length());
            char sign = BYTES.charAt(chance.nextInt(BYTES.length()));
            switch (chance.nextInt(7)) {
                case 0:
                    spoilt.setCharAt(at, sign);
                    break;
                case 1:
                    spoilt.insert(at, sign);
                    break;
                case 2:
                    spoilt.deleteCharAt(at);
                    break;
                case 3:
                    spoilt.insert(at, spoilt.substring(at, Math.min(spoilt.length(), at + chance.nextInt(30))));
                    break;
                case 4:
                    spoilt.setLength(at);
                    break;
                case 5:
                    spoilt.insert(at, ("" + sign).repeat(chance.nextInt(20)));
                    break;
                default:
                    spoilt.insert(at, "(".repeat(chance.nextInt(16)));
                    break;
            }
        }
        return spoilt.toString();
    }

    private String junk() {
        StringBuilder junk = new StringBuilder();
        for (int n = chance.nextInt(30); n > 0; n--) {
            junk.append(BYTES.charAt(chance.nextInt(BYTES.length())));
        }
        return junk.toString();
    }
}
