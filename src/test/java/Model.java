import java.util.ArrayList;
import java.util.Arrays;
import java.util.List;
import java.util.regex.Pattern;

/**
 * The document once more, made another way: trees and exceptions, and faults that are gathered all
 * and of which the least place counts (of one place the least number). ModelTest compares both.
 */
final class Model {
    private static final String VARIABLES = "abcrxnk";

    private String tape = "";
    private final List<Told> methods = new ArrayList<>();
    private final Work[] jobs = new Work[8];
    final List<int[]> records = new ArrayList<>();
    final List<int[]> keeps = new ArrayList<>();
    int fault = 0;
    int place = -1;
    int value = 0;
    int invoked = 0;
    private boolean probed;

    private static final class Thrown extends Exception {
        private static final long serialVersionUID = 1;
        final int value;
        final boolean free;

        Thrown(int value, boolean free) {
            super(null, null, false, false);
            this.value = value;
            this.free = free;
        }
    }

    private static final class Stop extends Exception {
        private static final long serialVersionUID = 1;
    }

    private interface Node {
        int value(int[] variables) throws Thrown;
    }

    private static final class Told {
        String name;
        int parameters;
        Node body;
    }

    private static final class Work {
        int kind;
        int point;
        Pattern pattern;
        Node expression;
        Node condition;
        int limit = 99;
        int made = 0;
        final int[][] counts = new int[16][3];
    }

    int feed(int n, long bytes) {
        if (tape.length() + n > 200) {
            return -1;
        }
        for (int i = 0; i < n; i++) {
            tape += (char) (bytes >> 8 * i & 255);
        }
        return tape.length();
    }

    int wipe() {
        int had = tape.length();
        tape = "";
        return had;
    }

    int method() {
        Parse parse = new Parse();
        Told told = new Told();
        try {
            told.name = parse.name();
            parse.byteDue('(');
            parse.check("0123".indexOf(parse.here()) >= 0);
            told.parameters = parse.here() - '0';
            parse.at++;
            parse.byteDue(')');
            parse.byteDue('=');
            told.body = parse.whole(told.parameters, false);
            parse.check(parse.at == tape.length());
            boolean there = methods.stream().anyMatch(m -> m.name.equals(told.name) && m.parameters == told.parameters);
            if (there || methods.size() == 16) {
                parse.note(5, tape.length());
            }
        } catch (Stop e) {
            // the fault is noted
        }
        if (faulty(parse)) {
            return -1;
        }
        methods.add(told);
        return methods.size() - 1;
    }

    private boolean faulty(Parse parse) {
        fault = 0;
        place = -1;
        for (int[] noted : parse.faults) {
            if (fault == 0 || noted[1] < place || noted[1] == place && noted[0] < fault) {
                fault = noted[0];
                place = noted[1];
            }
        }
        return fault != 0;
    }

    int command() {
        Parse parse = new Parse();
        int[] answer = new int[1];
        Runnable deed = null;
        try {
            deed = told(parse, answer);
        } catch (Stop e) {
            // the fault is noted
        }
        if (faulty(parse)) {
            return -1;
        }
        deed.run();
        return answer[0];
    }

    private Runnable told(Parse parse, int[] answer) throws Stop {
        parse.blanks();
        int first = parse.at;
        String verb = parse.word();
        int kind = Arrays.asList("watch", "monitor", "keep", "kill", "reset").indexOf(verb) + 1;
        parse.check(kind > 0, first);
        parse.blanks();
        if (kind == 4) {
            int number = parse.number(99);
            parse.endOfWord();
            parse.end();
            if (number >= 8 || jobs[number] == null) {
                parse.note(5, tape.length());
            }
            answer[0] = number;
            return () -> jobs[number] = null;
        }
        if (kind == 5) {
            parse.end();
            for (Work job : jobs) {
                answer[0] += job == null ? 0 : 1;
            }
            return () -> Arrays.fill(jobs, null);
        }
        Work work = new Work();
        work.kind = kind;
        parse.job(work);
        parse.end();
        int number = 0;
        while (number < 8 && jobs[number] != null) {
            number++;
        }
        if (number == 8) {
            parse.note(5, tape.length());
        }
        answer[0] = number;
        int free = number;
        return () -> jobs[free] = work;
    }

    int call(int method, int a, int b, int c) {
        probed = true;
        return start(method, a, b, c);
    }

    int replay(int i) {
        probed = false;
        int[] kept = keeps.get(i);
        return start(kept[1], kept[2], kept[3], kept[4]);
    }

    private int start(int method, int a, int b, int c) {
        invoked = 0;
        int[] given = {a, b, c};
        try {
            value = invoke(method, Arrays.copyOf(given, methods.get(method).parameters), 1);
            return 0;
        } catch (Thrown e) {
            value = e.value;
            return 1;
        }
    }

    private int invoke(int method, int[] given, int depth) throws Thrown {
        if (depth > 10) {
            throw new Thrown(-2, false);
        }
        if (invoked == 1000) {
            throw new Thrown(-3, true);
        }
        invoked++;
        int[] row = Arrays.copyOf(given, 7);
        row[5] = depth;
        probe(method, 0, row);
        try {
            int returned = methods.get(method).body.value(row.clone());
            row[3] = returned;
            probe(method, 1, row);
            return returned;
        } catch (Thrown e) {
            row[4] = e.value;
            probe(method, 2, row);
            throw e;
        }
    }

    private void probe(int method, int point, int[] row) {
        for (int j = 0; probed && j < 8; j++) {
            Work job = jobs[j];
            if (job == null || !job.pattern.matcher(methods.get(method).name).matches()) {
                continue;
            }
            if (job.kind == 2) {
                job.counts[method][point]++;
            } else if (job.kind == 3 && point > 0 && keeps.size() < 40) {
                keeps.add(new int[] {j, method, row[0], row[1], row[2], point - 1, row[2 + point]});
            } else if (job.kind == 1 && job.point == point) {
                watch(j, method, row.clone());
            }
        }
    }

    private void watch(int j, int method, int[] row) {
        Work job = jobs[j];
        row[6] = job.made;
        int[] record = {j, method, 0, 0, row[5]};
        try {
            if (job.condition != null && job.condition.value(row) == 0) {
                return;
            }
            record[2] = job.expression.value(row);
        } catch (Thrown e) {
            record[2] = e.value;
            record[3] = 1;
        }
        job.made++;
        if (job.made == job.limit) {
            jobs[j] = null;
        }
        if (records.size() < 300) {
            records.add(record);
        }
    }

    int clear() {
        int had = records.size();
        records.clear();
        keeps.clear();
        return had;
    }

    int job(int j, int what) {
        if (jobs[j] == null) {
            return 0;
        }
        return what == 0 ? jobs[j].kind : jobs[j].kind == 1 ? jobs[j].limit - jobs[j].made : 0;
    }

    boolean isMonitor(int j) {
        return jobs[j] != null && jobs[j].kind == 2;
    }

    int methodCount() {
        return methods.size();
    }

    int counted(int j, int method, int what) {
        return jobs[j].counts[method][what];
    }

    /** Goes on behind every fault but those of kind 1, and notes all. */
    private final class Parse {
        final List<int[]> faults = new ArrayList<>();
        int at = 0;
        private int known;
        private boolean inCommand;
        private int nodes;
        private int open;

        void note(int kind, int where) {
            faults.add(new int[] {kind, where});
        }

        void check(boolean good, int where) throws Stop {
            if (!good) {
                note(1, where);
                throw new Stop();
            }
        }

        void check(boolean good) throws Stop {
            check(good, at);
        }

        /** A sign that is nowhere due stands for the end. */
        char here() {
            return at < tape.length() ? tape.charAt(at) : '\uffff';
        }

        void byteDue(char due) throws Stop {
            check(here() == due);
            at++;
        }

        boolean blankOrEnd() {
            return here() <= 32 || at == tape.length();
        }

        void blanks() {
            while (here() <= 32) {
                at++;
            }
        }

        String word() {
            int first = at;
            while (!blankOrEnd()) {
                at++;
            }
            return tape.substring(first, at);
        }

        void endOfWord() throws Stop {
            check(blankOrEnd());
            blanks();
        }

        void end() throws Stop {
            check(at == tape.length());
        }

        int number(long most) throws Stop {
            int first = at;
            while (here() >= '0' && here() <= '9') {
                at++;
            }
            check(at > first);
            java.math.BigInteger number = new java.math.BigInteger(tape.substring(first, at));
            if (number.compareTo(java.math.BigInteger.valueOf(most)) > 0) {
                note(2, first);
                return 0;
            }
            return number.intValue();
        }

        void job(Work work) throws Stop {
            if (work.kind == 1) {
                int first = at;
                work.point = Arrays.asList("enter", "return", "throw").indexOf(word());
                check(work.point >= 0, first);
                blanks();
            }
            work.pattern = pattern();
            endOfWord();
            if (work.kind != 1) {
                return;
            }
            work.expression = whole(7, true);
            endOfWord();
            if (at < tape.length()) {
                work.condition = whole(7, true);
                endOfWord();
            }
            if (at < tape.length()) {
                int first = at;
                work.limit = number(99);
                if (work.limit == 0) {
                    note(2, first);
                }
                endOfWord();
            }
        }

        private Pattern pattern() throws Stop {
            int first = at;
            StringBuilder regex = new StringBuilder();
            while (here() >= 'a' && here() <= 'z' || ".*?".indexOf(here()) >= 0) {
                if (at == first + 12) {
                    note(3, at);
                }
                char sign = here();
                regex.append(sign == '*' ? ".*" : sign == '?' ? "." : sign == '.' ? "\\." : "" + sign);
                at++;
            }
            check(at > first);
            return Pattern.compile(regex.toString());
        }

        private String row() {
            int behind = at;
            while (behind < tape.length() && (tape.charAt(behind) == '.' || tape.charAt(behind) >= 'a' && tape.charAt(behind) <= 'z')) {
                behind++;
            }
            return tape.substring(at, behind);
        }

        String name() throws Stop {
            String name = row();
            check(name.matches("[a-z]+\\.[a-z]+"));
            if (name.length() > 12) {
                note(3, at + 12);
            }
            at += name.length();
            return name;
        }

        Node whole(int variables, boolean command) throws Stop {
            known = variables;
            inCommand = command;
            nodes = 0;
            open = 0;
            return either();
        }

        private void node() {
            nodes++;
            if (nodes == 21) {
                note(3, at);
            }
        }

        private void opened() {
            open++;
            if (open == 13) {
                note(3, at);
            }
        }

        private Node either() throws Stop {
            Node left = choice();
            while (here() == '#') {
                node();
                at++;
                Node first = left;
                Node second = choice();
                left = v -> {
                    try {
                        return first.value(v);
                    } catch (Thrown e) {
                        if (e.free) {
                            throw e;
                        }
                        return second.value(v);
                    }
                };
            }
            return left;
        }

        private Node choice() throws Stop {
            Node asked = compared();
            if (here() != '?') {
                return asked;
            }
            node();
            at++;
            Node first = either();
            byteDue(':');
            Node second = choice();
            return v -> asked.value(v) != 0 ? first.value(v) : second.value(v);
        }

        private Node compared() throws Stop {
            Node left = sum();
            char sign = here();
            if ("<=>".indexOf(sign) < 0) {
                return left;
            }
            node();
            at++;
            Node right = sum();
            return v -> {
                int order = Integer.compare(left.value(v), right.value(v));
                return order == sign - '=' ? 1 : 0;
            };
        }

        private Node sum() throws Stop {
            Node left = product();
            while (here() == '+' || here() == '-') {
                boolean plus = here() == '+';
                node();
                at++;
                Node first = left;
                Node second = product();
                left = plus ? v -> first.value(v) + second.value(v) : v -> first.value(v) - second.value(v);
            }
            return left;
        }

        private Node product() throws Stop {
            Node left = signed();
            while ("*/%".indexOf(here()) >= 0) {
                char sign = here();
                node();
                at++;
                Node first = left;
                Node second = signed();
                left = v -> {
                    long x = first.value(v);
                    long y = second.value(v);
                    if (sign != '*' && y == 0) {
                        throw new Thrown(-1, false);
                    }
                    return (int) (sign == '*' ? x * y : sign == '/' ? x / y : x % y);
                };
            }
            return left;
        }

        private Node signed() throws Stop {
            char sign = here();
            if (sign != '-' && sign != '!') {
                return operand();
            }
            node();
            at++;
            Node of = signed();
            return sign == '-' ? v -> -of.value(v) : v -> {
                throw new Thrown(of.value(v), false);
            };
        }

        private Node operand() throws Stop {
            if (here() >= '0' && here() <= '9') {
                node();
                int number = number(Integer.MAX_VALUE);
                return v -> number;
            }
            if (here() == '(') {
                opened();
                at++;
                Node within = either();
                byteDue(')');
                open--;
                return within;
            }
            String row = row();
            if (row.matches("[a-z]")) {
                node();
                int index = VARIABLES.indexOf(row);
                if (index < 0 || index >= known) {
                    note(4, at);
                }
                at++;
                return v -> v[index];
            }
            return named();
        }

        private Node named() throws Stop {
            int first = at;
            String name = name();
            int behind = at;
            at = first;
            node();
            at = behind;
            if (inCommand) {
                note(4, first);
            }
            check(here() == '(');
            opened();
            at++;
            List<Node> given = new ArrayList<>();
            while (here() != ')' || !given.isEmpty()) {
                if (given.size() == 3) {
                    note(3, at);
                }
                given.add(either());
                if (here() != ',') {
                    break;
                }
                at++;
            }
            byteDue(')');
            open--;
            return v -> invoked(name, given, v);
        }

        private int invoked(String name, List<Node> given, int[] row) throws Thrown {
            int[] values = new int[given.size()];
            for (int i = 0; i < values.length; i++) {
                values[i] = given.get(i).value(row);
            }
            for (int i = 0; i < methods.size(); i++) {
                if (methods.get(i).name.equals(name) && methods.get(i).parameters == values.length) {
                    return invoke(i, values, row[5] + 1);
                }
            }
            throw new Thrown(-4, false);
        }
    }
}
