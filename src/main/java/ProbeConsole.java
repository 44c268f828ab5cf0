import java.util.Arrays;

/**
 * A console that looks into a running application: texts tell methods and commands, commands put
 * probes on methods, and what the probes see is listed.
 */
public final class ProbeConsole {
    public static final int NONE = -1;

    private static final int RECORD_WIDTH = 5;
    private static final int KEPT_WIDTH = 7;

    private final Tape tape;
    private final Reader reader;
    private final Texts texts;
    private final Methods methods;
    private final Jobs jobs;
    private final Rows recordRows;
    private final Rows keptRows;
    private final Machine machine;

    public ProbeConsole() {
        tape = new Tape();
        reader = new Reader(tape);
        texts = new Texts(reader);
        methods = new Methods();
        jobs = new Jobs();
        recordRows = new Rows(300, RECORD_WIDTH);
        keptRows = new Rows(40, KEPT_WIDTH);
        machine = new Machine(methods, jobs, recordRows, keptRows);
    }

    public int feed(int n, long bytes) throws IllegalArgumentException {
        if (n < 1 || n > 8) {
            throw new IllegalArgumentException();
        }
        if (tape.length + n > Tape.ROOM) {
            return NONE;
        }
        for (int i = 0; i < n; i++) {
            tape.append((int) (bytes >>> 8 * i) & 255);
        }
        return tape.length;
    }

    public int wipe() {
        int had = tape.length;
        tape.length = 0;
        return had;
    }

    public int method() {
        long key = texts.readMethod(methods.spareBody());
        if (methods.isFull() || methods.find(key) != NONE) {
            reader.failAtEnd();
        }
        if (reader.fault != Reader.NO_FAULT) {
            return NONE;
        }
        int added = methods.add(key);
        jobs.meet(added, key);
        return added;
    }

    public int command() {
        int verb = texts.readCommand(jobs.spare);
        if (reader.fault != Reader.NO_FAULT) {
            return NONE;
        }
        if (verb == Texts.RESET) {
            return jobs.endAll();
        }
        int number = verb == Texts.KILL ? jobs.ended(texts.number) : jobs.begun(methods);
        if (number == NONE) {
            reader.failAtEnd();
        }
        return number;
    }

    public int fault() {
        return reader.fault;
    }

    public int place() {
        return reader.place;
    }

    public int call(int method, int a, int b, int c) throws IndexOutOfBoundsException {
        if (!methods.has(method)) {
            throw new IndexOutOfBoundsException();
        }
        machine.setParameters(methods.parametersOf(method), a, b, c);
        return machine.start(method, true);
    }

    public int value() {
        return machine.outcome;
    }

    public int invoked() {
        return machine.invocations;
    }

    public int records() {
        return recordRows.size;
    }

    public int record(int i, int what) throws IndexOutOfBoundsException, IllegalArgumentException {
        if (!recordRows.has(i)) {
            throw new IndexOutOfBoundsException();
        }
        if (what < 0 || what >= RECORD_WIDTH) {
            throw new IllegalArgumentException();
        }
        return recordRows.cell(i, what);
    }

    public int clear() {
        int had = recordRows.size;
        recordRows.size = 0;
        keptRows.size = 0;
        return had;
    }

    public int job(int job, int what) throws IndexOutOfBoundsException, IllegalArgumentException {
        if (job < 0 || job >= Jobs.MOST) {
            throw new IndexOutOfBoundsException();
        }
        if (what < 0 || what > 1) {
            throw new IllegalArgumentException();
        }
        return what == 0 ? jobs.at(job).kind : jobs.at(job).left();
    }

    public int counted(int job, int method, int what) throws IndexOutOfBoundsException, IllegalArgumentException {
        if (!jobs.has(job) || jobs.at(job).kind != Job.MONITOR || !methods.has(method)) {
            throw new IndexOutOfBoundsException();
        }
        if (what < 0 || what >= Job.POINTS) {
            throw new IllegalArgumentException();
        }
        return jobs.at(job).counts[method * Job.POINTS + what];
    }

    public int keeps() {
        return keptRows.size;
    }

    public int kept(int i, int what) throws IndexOutOfBoundsException, IllegalArgumentException {
        if (!keptRows.has(i)) {
            throw new IndexOutOfBoundsException();
        }
        if (what < 0 || what >= KEPT_WIDTH) {
            throw new IllegalArgumentException();
        }
        return keptRows.cell(i, what);
    }

    public int replay(int i) throws IndexOutOfBoundsException {
        if (!keptRows.has(i)) {
            throw new IndexOutOfBoundsException();
        }
        int method = keptRows.cell(i, 1);
        machine.setParameters(methods.parametersOf(method),
                keptRows.cell(i, 2), keptRows.cell(i, 3), keptRows.cell(i, 4));
        return machine.start(method, false);
    }

    /** The bytes fed so far, each 0 to 255. */
    private static final class Tape {
        static final int ROOM = 200;
        static final int END = -1;

        final int[] bytes;
        int length;

        Tape() {
            bytes = new int[ROOM];
            length = 0;
        }

        void append(int value) {
            if (length < ROOM) {
                bytes[length] = value;
                length++;
            }
        }

        int at(int place) {
            return place >= 0 && place < length ? bytes[place] : END;
        }
    }

    /**
     * Names and patterns as one long, five bits a sign, the first sign lowest: so a name is found by
     * comparing numbers, and none makes an object. Twelve signs leave four bits, of which a method's
     * key takes two for the number of its parameters.
     */
    private static final class Packed {
        static final int LONGEST = 12;

        private static final int BITS = 5;
        private static final int MASK = 31;
        private static final int POINT = 27;
        private static final int ANY_ROW = 28;
        private static final int ANY_ONE = 29;
        private static final int KEY_SHIFT = LONGEST * BITS;

        /** 0 for a byte that neither a name nor a pattern has. */
        static int sign(int letter) {
            if (letter >= 'a' && letter <= 'z') {
                return letter - 'a' + 1;
            }
            switch (letter) {
                case '.':
                    return POINT;
                case '*':
                    return ANY_ROW;
                case '?':
                    return ANY_ONE;
                default:
                    return 0;
            }
        }

        static long with(long packed, int place, int sign) {
            return packed | (long) sign << BITS * place;
        }

        static int signAt(long packed, int place) {
            return (int) (packed >>> BITS * place) & MASK;
        }

        static long key(long name, int parameters) {
            return name | (long) parameters << KEY_SHIFT;
        }

        static int parametersOf(long key) {
            return (int) (key >>> KEY_SHIFT);
        }

        /**
         * Bit p of what is reached says that the pattern's first p signs fit what was read of the
         * name: all ways through the stars are followed at once, which no pattern can make long.
         */
        static boolean fits(long pattern, long key) {
            int reached = pastStars(pattern, 1);
            int end = 0;
            for (int i = 0; i < LONGEST; i++) {
                int sign = signAt(key, i);
                if (sign != 0) {
                    reached = pastStars(pattern, pastSign(pattern, reached, sign));
                }
                if (signAt(pattern, i) != 0) {
                    end = i + 1;
                }
            }
            return (reached >>> end & 1) == 1;
        }

        private static int pastStars(long pattern, int reached) {
            int found = reached;
            for (int p = 0; p < LONGEST; p++) {
                if ((found >>> p & 1) == 1 && signAt(pattern, p) == ANY_ROW) {
                    found |= 1 << p + 1;
                }
            }
            return found;
        }

        private static int pastSign(long pattern, int reached, int sign) {
            int found = 0;
            for (int p = 0; p < LONGEST; p++) {
                int due = signAt(pattern, p);
                if ((reached >>> p & 1) == 1 && due == ANY_ROW) {
                    found |= 1 << p;
                } else if ((reached >>> p & 1) == 1 && (due == ANY_ONE || due == sign)) {
                    found |= 1 << p + 1;
                }
            }
            return found;
        }
    }

    /**
     * An expression as steps over a stack, so that its value is found without recursion. An
     * operation that is not named here is the byte of a sign between two values.
     */
    private static final class Code {
        static final int MOST_NODES = 20;
        static final int NUMBER = 0;
        static final int VARIABLE = 1;
        static final int NEGATE = 2;
        static final int THROW = 3;
        static final int SKIP_IF_ZERO = 4;
        static final int SKIP = 5;
        static final int OR_ELSE = 6;
        static final int INVOKE = 7;

        /** A node is a step, a ?: is two: 20 nodes have room for six of these. */
        static final int ROOM = MOST_NODES + 6;

        final int[] operations;
        final long[] operands;
        /** Where the left side of a # begins. */
        final int[] starts;
        /** How many values lie on the stack behind a step. */
        final int[] heights;
        int length;
        private int height;

        Code() {
            operations = new int[ROOM];
            operands = new long[ROOM];
            starts = new int[ROOM];
            heights = new int[ROOM];
        }

        void empty() {
            length = 0;
            height = 0;
        }

        int add(int operation, long operand) {
            int at = length;
            height += rise(operation);
            if (at < ROOM) {
                operations[at] = operation;
                operands[at] = operand;
                heights[at] = height;
                length++;
            }
            return at;
        }

        void addInvocation(long key, int arguments) {
            height -= arguments;
            add(INVOKE, key);
        }

        int addOrElse(int start) {
            int at = add(OR_ELSE, 0);
            if (at < ROOM) {
                starts[at] = start;
            }
            return at;
        }

        void leadHere(int at) {
            if (at < ROOM) {
                operands[at] = length;
            }
        }

        /** The step behind the innermost # that has this step on its left; the end when there is none. */
        int behindThrow(int at) {
            for (int i = at + 1; i < length; i++) {
                if (operations[i] == OR_ELSE && starts[i] <= at) {
                    return i + 1;
                }
            }
            return length;
        }

        /** The skips count as taking a value, for the side behind them begins without the other's. */
        private static int rise(int operation) {
            switch (operation) {
                case NUMBER:
                case VARIABLE:
                case INVOKE:
                    return 1;
                case NEGATE:
                case THROW:
                    return 0;
                default:
                    return -1;
            }
        }
    }

    /**
     * Reads the tape from its beginning on. Behind the first fault it sees the end everywhere, so
     * that all that reads by it comes to an end too, and later faults are not noted.
     */
    private static final class Reader {
        static final int NO_FAULT = 0;
        static final int BAD_BYTE = 1;
        static final int BAD_NUMBER = 2;
        static final int TOO_MUCH = 3;
        static final int UNKNOWN = 4;
        static final int NO_ROOM = 5;

        private static final long FAR_TOO_GREAT = 1L << 40;

        final Tape tape;
        int position;
        int fault;
        int place;
        int rowLength;
        boolean rowIsName;
        private long rowName;

        Reader(Tape tape) {
            this.tape = tape;
            fault = NO_FAULT;
            place = NONE;
        }

        void begin() {
            position = 0;
            fault = NO_FAULT;
            place = NONE;
        }

        int peek() {
            return fault == NO_FAULT ? tape.at(position) : Tape.END;
        }

        void fail(int kind, int at) {
            if (fault == NO_FAULT) {
                fault = kind;
                place = at;
            }
        }

        void failAtEnd() {
            fail(NO_ROOM, tape.length);
        }

        void expect(int due) {
            if (peek() != due) {
                fail(BAD_BYTE, position);
            }
            position++;
        }

        static boolean isFigure(int value) {
            return value >= '0' && value <= '9';
        }

        static boolean isRowByte(int value) {
            return value >= 'a' && value <= 'z' || value == '.';
        }

        static boolean isBlank(int value) {
            return value >= 0 && value <= 32;
        }

        int number(int most) {
            int first = position;
            long value = 0;
            if (!isFigure(peek())) {
                fail(BAD_BYTE, first);
            }
            for (int i = 0; i < Tape.ROOM && isFigure(peek()); i++) {
                value = Math.min(value * 10 + peek() - '0', FAR_TOO_GREAT);
                position++;
            }
            if (value > most) {
                fail(BAD_NUMBER, first);
            }
            return (int) value;
        }

        /** Looks at all letters and points from here on, and stays before them. */
        void scanRow() {
            int length = 0;
            int points = 0;
            rowName = 0;
            while (length < Tape.ROOM && isRowByte(tape.at(position + length))) {
                int value = tape.at(position + length);
                points += value == '.' ? 1 : 0;
                if (length < Packed.LONGEST) {
                    rowName = Packed.with(rowName, length, Packed.sign(value));
                }
                length++;
            }
            rowLength = length;
            rowIsName = points == 1 && tape.at(position) != '.' && tape.at(position + length - 1) != '.';
        }

        /** The scanned row as a name, behind which the position is then. */
        long takeName() {
            if (!rowIsName) {
                fail(BAD_BYTE, position);
            }
            if (rowLength > Packed.LONGEST) {
                fail(TOO_MUCH, position + Packed.LONGEST);
            }
            position += rowLength;
            return rowName;
        }

        /** Takes this word, and the blanks behind it, if it stands here whole. */
        boolean takes(String word) {
            for (int i = 0; i < word.length(); i++) {
                if (tape.at(position + i) != word.charAt(i)) {
                    return false;
                }
            }
            int behind = tape.at(position + word.length());
            if (behind != Tape.END && !isBlank(behind)) {
                return false;
            }
            position += word.length();
            skipBlanks();
            return true;
        }

        void endWord() {
            if (peek() != Tape.END && !isBlank(peek())) {
                fail(BAD_BYTE, position);
            }
            skipBlanks();
        }

        void skipBlanks() {
            for (int i = 0; i < Tape.ROOM && isBlank(peek()); i++) {
                position++;
            }
        }
    }

    /**
     * Reads expressions into code; its kinds are numbered as in the document. Each way deeper takes a
     * node or opens a bracket, whose limits keep the recursion low: behind a fault nothing goes deeper.
     */
    private static final class Expressions {
        /** In the order of the places that Machine gives them. */
        static final String VARIABLES = "abcrxnk";

        private static final int COMPARED = 3;
        private static final int SUM = 4;
        private static final int PRODUCT = 5;
        private static final int SIGNED = 6;
        private static final int MOST_OPEN = 12;
        private static final int MOST_ARGUMENTS = 3;

        private final Reader reader;
        private Code code;
        private int known;
        private boolean named;
        private int nodes;
        private int open;
        /** The fourth expression of a name has begun: whatever it begins with is too much. */
        private boolean barred;

        Expressions(Reader reader, Code first) {
            this.reader = reader;
            code = first;
        }

        void read(Code into, int knownVariables, boolean namesAllowed) {
            code = into;
            known = knownVariables;
            named = namesAllowed;
            nodes = 0;
            open = 0;
            barred = false;
            code.empty();
            expression();
        }

        private void expression() {
            int start = code.length;
            choice();
            for (int i = 0; i < Code.MOST_NODES && reader.peek() == '#'; i++) {
                takeSign();
                int orElse = code.addOrElse(start);
                choice();
                code.leadHere(orElse);
            }
        }

        private void choice() {
            joined(COMPARED);
            if (reader.peek() != '?') {
                return;
            }
            takeSign();
            int toOther = code.add(Code.SKIP_IF_ZERO, 0);
            expression();
            // ?: is one sign, whose node was counted at its first byte
            reader.expect(':');
            int toEnd = code.add(Code.SKIP, 0);
            code.leadHere(toOther);
            choice();
            code.leadHere(toEnd);
        }

        private void joined(int kind) {
            if (kind >= SIGNED) {
                signed();
                return;
            }
            joined(kind + 1);
            int most = kind == COMPARED ? 1 : Code.MOST_NODES;
            for (int i = 0; i < most && kindOf(reader.peek()) == kind; i++) {
                int sign = takeSign();
                joined(kind + 1);
                code.add(sign, 0);
            }
        }

        private static int kindOf(int sign) {
            switch (sign) {
                case '<':
                case '=':
                case '>':
                    return COMPARED;
                case '+':
                case '-':
                    return SUM;
                case '*':
                case '/':
                case '%':
                    return PRODUCT;
                default:
                    return 0;
            }
        }

        private void signed() {
            if (reader.peek() != '-' && reader.peek() != '!') {
                operand();
                return;
            }
            int operation = takeSign() == '-' ? Code.NEGATE : Code.THROW;
            signed();
            code.add(operation, 0);
        }

        private void operand() {
            int first = reader.position;
            if (Reader.isFigure(reader.peek())) {
                int number = reader.number(Integer.MAX_VALUE);
                countNode(first);
                code.add(Code.NUMBER, number);
            } else if (Reader.isRowByte(reader.peek())) {
                word();
            } else if (takeOpen()) {
                expression();
                reader.expect(')');
                open--;
            }
        }

        private void word() {
            reader.scanRow();
            if (reader.rowIsName) {
                invocation();
            } else if (reader.rowLength == 1 && reader.peek() != '.') {
                variable();
            } else {
                reader.fail(Reader.BAD_BYTE, reader.position);
            }
        }

        private void variable() {
            int index = VARIABLES.indexOf((char) reader.peek());
            countNode(reader.position);
            if (index < 0 || index >= known) {
                reader.fail(Reader.UNKNOWN, reader.position);
            }
            reader.position++;
            code.add(Code.VARIABLE, index);
        }

        private void invocation() {
            countNode(reader.position);
            if (!named) {
                reader.fail(Reader.UNKNOWN, reader.position);
            }
            long name = reader.takeName();
            if (takeOpen()) {
                int count = reader.peek() == ')' ? 0 : arguments();
                reader.expect(')');
                open--;
                code.addInvocation(Packed.key(name, count), count);
            }
        }

        private int arguments() {
            expression();
            int count = 1;
            while (count <= MOST_ARGUMENTS && reader.peek() == ',') {
                reader.position++;
                barred = count == MOST_ARGUMENTS;
                expression();
                count++;
            }
            return Math.min(count, MOST_ARGUMENTS);
        }

        private int takeSign() {
            int sign = reader.peek();
            countNode(reader.position);
            reader.position++;
            return sign;
        }

        private void countNode(int first) {
            if (nodes >= Code.MOST_NODES || barred) {
                reader.fail(Reader.TOO_MUCH, first);
            }
            nodes++;
        }

        /** Whether the reading may go on within: no fault lets it go deeper. */
        private boolean takeOpen() {
            if (reader.peek() != '(') {
                reader.fail(Reader.BAD_BYTE, reader.position);
            } else if (open >= MOST_OPEN || barred) {
                reader.fail(Reader.TOO_MUCH, reader.position);
            }
            reader.position++;
            open++;
            return reader.fault == Reader.NO_FAULT;
        }
    }

    /** Reads the texts of methods and commands. */
    private static final class Texts {
        static final int KILL = 4;
        static final int RESET = 5;

        private static final int GREATEST = 99;

        int number;
        private final Reader reader;
        private final Expressions expressions;

        Texts(Reader reader) {
            this.reader = reader;
            expressions = new Expressions(reader, new Code());
        }

        /** The method's key; it means nothing when there is a fault. */
        long readMethod(Code body) {
            reader.begin();
            reader.scanRow();
            long name = reader.takeName();
            reader.expect('(');
            int parameters = parameters();
            reader.expect(')');
            reader.expect('=');
            expressions.read(body, parameters, true);
            expectEnd();
            return Packed.key(name, parameters);
        }

        private int parameters() {
            int figure = reader.peek();
            if (figure < '0' || figure > '3') {
                reader.fail(Reader.BAD_BYTE, reader.position);
                return 0;
            }
            reader.position++;
            return figure - '0';
        }

        /** The command's verb: a kind of job, KILL or RESET; it means nothing when there is a fault. */
        int readCommand(Job told) {
            reader.begin();
            reader.skipBlanks();
            told.renew();
            int verb = verb();
            if (verb == KILL) {
                number = reader.number(GREATEST);
                reader.endWord();
            } else if (verb == Job.WATCH) {
                readWatch(told);
            } else if (verb != RESET) {
                told.pattern = pattern();
            }
            expectEnd();
            told.kind = verb;
            return verb;
        }

        private int verb() {
            if (reader.takes("watch")) {
                return Job.WATCH;
            }
            if (reader.takes("monitor")) {
                return Job.MONITOR;
            }
            if (reader.takes("keep")) {
                return Job.KEEP;
            }
            if (reader.takes("kill")) {
                return KILL;
            }
            if (!reader.takes("reset")) {
                reader.fail(Reader.BAD_BYTE, reader.position);
            }
            return RESET;
        }

        private void readWatch(Job told) {
            told.point = point();
            told.pattern = pattern();
            expressions.read(told.expression, Expressions.VARIABLES.length(), false);
            reader.endWord();
            if (reader.peek() != Tape.END) {
                expressions.read(told.condition, Expressions.VARIABLES.length(), false);
                reader.endWord();
                told.conditional = true;
            }
            if (reader.peek() != Tape.END) {
                told.limit = limit();
            }
        }

        private int point() {
            if (reader.takes("enter")) {
                return Job.ENTER;
            }
            if (reader.takes("return")) {
                return Job.RETURN;
            }
            if (!reader.takes("throw")) {
                reader.fail(Reader.BAD_BYTE, reader.position);
            }
            return Job.THROW;
        }

        private long pattern() {
            long packed = 0;
            int length = 0;
            if (reader.peek() == Tape.END) {
                reader.fail(Reader.BAD_BYTE, reader.position);
            }
            while (length <= Packed.LONGEST && Packed.sign(reader.peek()) != 0) {
                if (length == Packed.LONGEST) {
                    reader.fail(Reader.TOO_MUCH, reader.position);
                } else {
                    packed = Packed.with(packed, length, Packed.sign(reader.peek()));
                    reader.position++;
                }
                length++;
            }
            reader.endWord();
            return packed;
        }

        private int limit() {
            int first = reader.position;
            int limit = reader.number(GREATEST);
            if (limit == 0) {
                reader.fail(Reader.BAD_NUMBER, first);
            }
            reader.endWord();
            return limit;
        }

        private void expectEnd() {
            if (reader.peek() != Tape.END) {
                reader.fail(Reader.BAD_BYTE, reader.position);
            }
        }
    }

    /** The application's methods, by their numbers. */
    private static final class Methods {
        static final int MOST = 16;

        private final long[] keys;
        /** One more than methods: the next one is read into the first that is spare. */
        private final Code[] bodies;
        private int count;

        Methods() {
            keys = new long[MOST];
            bodies = new Code[MOST + 1];
            for (int i = 0; i <= MOST; i++) {
                bodies[i] = new Code();
            }
        }

        boolean has(int method) {
            return method >= 0 && method < count;
        }

        boolean isFull() {
            return count >= MOST;
        }

        int size() {
            return count;
        }

        long keyOf(int method) {
            return has(method) ? keys[method] : 0;
        }

        int parametersOf(int method) {
            return Packed.parametersOf(keyOf(method));
        }

        Code body(int method) {
            return bodies[has(method) ? method : MOST];
        }

        Code spareBody() {
            return bodies[count];
        }

        int find(long key) {
            for (int i = 0; i < count; i++) {
                if (keys[i] == key) {
                    return i;
                }
            }
            return NONE;
        }

        int add(long key) {
            if (isFull()) {
                return NONE;
            }
            keys[count] = key;
            count++;
            return count - 1;
        }
    }

    /** What one command asked for, and what it has come to. */
    private static final class Job {
        static final int FREE = 0;
        static final int WATCH = 1;
        static final int MONITOR = 2;
        static final int KEEP = 3;

        /** The points of an invocation; a monitor's counts have the same order. */
        static final int ENTER = 0;
        static final int RETURN = 1;
        static final int THROW = 2;
        static final int POINTS = 3;

        private static final int USUAL_LIMIT = 99;

        int kind;
        int point;
        long pattern;
        final Code expression;
        final Code condition;
        boolean conditional;
        int limit;
        int made;
        final int[] counts;
        /** A bit a method: patterns are compared when methods and jobs come, not at each invocation. */
        private int fitting;

        Job() {
            expression = new Code();
            condition = new Code();
            counts = new int[Methods.MOST * POINTS];
        }

        void renew() {
            kind = FREE;
            conditional = false;
            limit = USUAL_LIMIT;
            made = 0;
            fitting = 0;
            Arrays.fill(counts, 0);
        }

        void meet(int method, long key) {
            if (Packed.fits(pattern, key)) {
                fitting |= 1 << method;
            }
        }

        boolean sees(int method) {
            return kind != FREE && (fitting >>> method & 1) == 1;
        }

        int left() {
            return kind == WATCH ? limit - made : 0;
        }

        void countRecord() {
            made++;
            if (made >= limit) {
                kind = FREE;
            }
        }
    }

    /** The jobs, by their numbers. */
    private static final class Jobs {
        static final int MOST = 8;

        private final Job[] jobs;
        /** A command is read into this one, so that a faulty one spoils no job. */
        Job spare;

        Jobs() {
            jobs = new Job[MOST];
            for (int i = 0; i < MOST; i++) {
                jobs[i] = new Job();
            }
            spare = new Job();
        }

        boolean has(int number) {
            return number >= 0 && number < MOST && jobs[number].kind != Job.FREE;
        }

        Job at(int number) {
            return number >= 0 && number < MOST ? jobs[number] : spare;
        }

        int begun(Methods methods) {
            for (int i = 0; i < MOST; i++) {
                if (jobs[i].kind == Job.FREE) {
                    Job begun = spare;
                    spare = jobs[i];
                    jobs[i] = begun;
                    for (int m = 0; m < methods.size(); m++) {
                        begun.meet(m, methods.keyOf(m));
                    }
                    return i;
                }
            }
            return NONE;
        }

        int ended(int number) {
            if (!has(number)) {
                return NONE;
            }
            jobs[number].kind = Job.FREE;
            return number;
        }

        int endAll() {
            int ended = 0;
            for (int i = 0; i < MOST; i++) {
                ended += jobs[i].kind == Job.FREE ? 0 : 1;
                jobs[i].kind = Job.FREE;
            }
            return ended;
        }

        void meet(int method, long key) {
            for (int i = 0; i < MOST; i++) {
                jobs[i].meet(method, key);
            }
        }
    }

    /** A list of rows of numbers, with room for so many. */
    private static final class Rows {
        private final int most;
        private final int width;
        private final int[] cells;
        int size;

        Rows(int most, int width) {
            this.most = most;
            this.width = width;
            cells = new int[most * width];
        }

        boolean isFull() {
            return size >= most;
        }

        boolean has(int row) {
            return row >= 0 && row < size;
        }

        int cell(int row, int column) {
            int at = row * width + column;
            return at >= 0 && at < cells.length ? cells[at] : 0;
        }

        /** Into the row that is being made, behind those that are there. */
        void put(int column, int value) {
            int at = size * width + column;
            if (at >= 0 && at < cells.length) {
                cells[at] = value;
            }
        }

        void endRow() {
            if (size < most) {
                size++;
            }
        }
    }

    /** Invokes methods, and shows the probes what comes and goes. */
    private static final class Machine {
        private static final int DEEPEST = 10;
        private static final int MOST_INVOCATIONS = 1000;
        private static final int BY_ZERO = -1;
        private static final int TOO_DEEP = -2;
        private static final int TOO_MANY = -3;
        private static final int NO_METHOD = -4;

        /** Places in an invocation's row of variables, in the order of Expressions.VARIABLES. */
        private static final int RETURNED = 3;
        private static final int THROWN = 4;
        private static final int DEPTH = 5;
        private static final int MADE = 6;
        private static final int VARIABLES = 7;
        private static final int PARAMETERS = 3;

        int outcome;
        int invocations;
        private final Methods methods;
        private final Jobs jobs;
        private final Rows records;
        private final Rows keeps;
        /** A row for each depth, and one for the parameters of what is too deep. */
        private final int[][] variables;
        private final int[] stack;
        private int height;
        private boolean probed;
        /** Whether what ran last threw, and what. */
        private boolean threw;
        private int thrown;
        /** Whether the call is at its end by too many invocations, which no # holds. */
        private boolean stopped;

        Machine(Methods methods, Jobs jobs, Rows records, Rows keeps) {
            this.methods = methods;
            this.jobs = jobs;
            this.records = records;
            this.keeps = keeps;
            variables = new int[DEEPEST + 2][VARIABLES];
            // an expression has at most all its nodes on the stack; a probe's one may come on top
            stack = new int[(DEEPEST + 1) * Code.MOST_NODES];
        }

        void setParameters(int count, int a, int b, int c) {
            int[] row = variables[1];
            row[0] = count > 0 ? a : 0;
            row[1] = count > 1 ? b : 0;
            row[2] = count > 2 ? c : 0;
        }

        int start(int method, boolean withProbes) {
            probed = withProbes;
            invocations = 0;
            stopped = false;
            height = 0;
            outcome = invoke(method, 1);
            return threw ? 1 : 0;
        }

        /** What is returned or thrown; the parameters lie in the depth's row. */
        private int invoke(int method, int depth) {
            if (depth > DEEPEST) {
                threw = true;
                return TOO_DEEP;
            }
            if (invocations >= MOST_INVOCATIONS) {
                threw = true;
                stopped = true;
                return TOO_MANY;
            }
            invocations++;
            int[] row = variables[depth];
            row[RETURNED] = 0;
            row[THROWN] = 0;
            row[DEPTH] = depth;
            probe(method, Job.ENTER, row);
            int value = run(methods.body(method), row);
            boolean failed = threw;
            row[failed ? THROWN : RETURNED] = value;
            probe(method, failed ? Job.THROW : Job.RETURN, row);
            threw = failed;
            return value;
        }

        /** The value of an expression, or what it throws. */
        private int run(Code code, int[] row) {
            int base = height;
            int at = 0;
            threw = false;
            // steps only lead forward, so there are never more than the code has
            for (int i = 0; i < Code.ROOM && at < code.length; i++) {
                int next = step(code, at, row);
                at = threw ? behindThrow(code, at, base) : next;
            }
            int value = threw ? thrown : pop();
            height = base;
            return value;
        }

        /** The step that comes next, if this one doesn't throw. */
        private int step(Code code, int at, int[] row) {
            long operand = code.operands[at];
            int operation = code.operations[at];
            switch (operation) {
                case Code.NUMBER:
                    push((int) operand);
                    break;
                case Code.VARIABLE:
                    push(operand >= 0 && operand < VARIABLES ? row[(int) operand] : 0);
                    break;
                case Code.NEGATE:
                    push(-pop());
                    break;
                case Code.THROW:
                    fail(pop());
                    break;
                case Code.SKIP_IF_ZERO:
                    return pop() == 0 ? (int) operand : at + 1;
                case Code.SKIP:
                case Code.OR_ELSE:
                    return (int) operand;
                case Code.INVOKE:
                    invokeNamed(operand, row[DEPTH] + 1);
                    break;
                default:
                    int right = pop();
                    int left = pop();
                    if (right == 0 && (operation == '/' || operation == '%')) {
                        fail(BY_ZERO);
                    } else {
                        push(joined(operation, left, right));
                    }
                    break;
            }
            return at + 1;
        }

        private void fail(int value) {
            threw = true;
            thrown = value;
        }

        /** The step that comes behind a throw: the right side of a # that holds it, or the end. */
        private int behindThrow(Code code, int at, int base) {
            // a probe's expression runs while a call is stopped too, but invokes nothing
            boolean free = stopped && code.operations[at] == Code.INVOKE;
            int next = free ? code.length : code.behindThrow(at);
            if (next < code.length) {
                height = base + code.heights[next - 1];
                threw = false;
            }
            return next;
        }

        private void invokeNamed(long key, int depth) {
            int[] row = variables[Math.min(depth, DEEPEST + 1)];
            int count = Packed.parametersOf(key);
            for (int i = PARAMETERS - 1; i >= 0; i--) {
                row[i] = i < count ? pop() : 0;
            }
            int method = methods.find(key);
            if (method == NONE) {
                fail(NO_METHOD);
                return;
            }
            int value = invoke(method, depth);
            if (threw) {
                thrown = value;
            } else {
                push(value);
            }
        }

        private static int joined(int sign, int left, int right) {
            switch (sign) {
                case '+':
                    return left + right;
                case '-':
                    return left - right;
                case '*':
                    return left * right;
                case '/':
                    return right == 0 ? 0 : left / right;
                case '%':
                    return right == 0 ? 0 : left % right;
                case '<':
                    return left < right ? 1 : 0;
                case '=':
                    return left == right ? 1 : 0;
                default:
                    return left > right ? 1 : 0;
            }
        }

        private void push(int value) {
            if (height < stack.length) {
                stack[height] = value;
                height++;
            }
        }

        private int pop() {
            if (height <= 0) {
                return 0;
            }
            height--;
            return stack[height];
        }

        private void probe(int method, int point, int[] row) {
            if (!probed) {
                return;
            }
            for (int i = 0; i < Jobs.MOST; i++) {
                Job job = jobs.at(i);
                if (!job.sees(method)) {
                    continue;
                }
                if (job.kind == Job.MONITOR) {
                    job.counts[method * Job.POINTS + point]++;
                } else if (job.kind == Job.KEEP) {
                    keep(i, method, point, row);
                } else if (job.point == point) {
                    watch(i, method, row);
                }
            }
        }

        private void watch(int number, int method, int[] row) {
            Job job = jobs.at(number);
            row[MADE] = job.made;
            threw = false;
            int value = job.conditional ? run(job.condition, row) : 1;
            if (value == 0 && !threw) {
                return;
            }
            if (!threw) {
                value = run(job.expression, row);
            }
            job.countRecord();
            if (records.isFull()) {
                return;
            }
            records.put(0, number);
            records.put(1, method);
            records.put(2, value);
            records.put(3, threw ? 1 : 0);
            records.put(4, row[DEPTH]);
            records.endRow();
        }

        private void keep(int number, int method, int point, int[] row) {
            if (point == Job.ENTER || keeps.isFull()) {
                return;
            }
            keeps.put(0, number);
            keeps.put(1, method);
            for (int i = 0; i < PARAMETERS; i++) {
                keeps.put(2 + i, row[i]);
            }
            keeps.put(5, point == Job.THROW ? 1 : 0);
            keeps.put(6, row[point == Job.THROW ? THROWN : RETURNED]);
            keeps.endRow();
        }
    }
}
