import java.nio.charset.StandardCharsets;
import java.util.function.IntSupplier;

/** What the tests share: a console that takes texts, and the count of answers that are not due. */
final class Desk {
    ProbeConsole console = new ProbeConsole();
    private int checks = 0;
    private int wrong = 0;

    /** Begins again with a new console. */
    Desk anew() {
        console = new ProbeConsole();
        return this;
    }

    /** The tape is this text then. */
    void tape(String text) {
        console.wipe();
        add(text);
    }

    /** The text comes behind the tape. */
    void add(String text) {
        byte[] bytes = text.getBytes(StandardCharsets.ISO_8859_1);
        for (int i = 0; i < bytes.length; i += 8) {
            int n = Math.min(8, bytes.length - i);
            long word = 0;
            for (int k = 0; k < n; k++) {
                word |= (bytes[i + k] & 255L) << 8 * k;
            }
            if (console.feed(n, word) == ProbeConsole.NONE) {
                throw new IllegalStateException("the text is too long for the tape");
            }
        }
    }

    int method(String text) {
        tape(text);
        return console.method();
    }

    int command(String text) {
        tape(text);
        return console.command();
    }

    void due(String what, long got, long want) {
        checks++;
        if (got != want) {
            wrong++;
            System.out.println(what + " answered " + got + ", due is " + want);
        }
    }

    /** The method is taken, under this number. */
    void method(String text, int number) {
        due("method " + text, method(text), number);
        due("fault behind " + text, console.fault(), 0);
        due("place behind " + text, console.place(), ProbeConsole.NONE);
    }

    /** The command is taken, with this answer. */
    void command(String text, int answer) {
        due("command " + text, command(text), answer);
        due("fault behind " + text, console.fault(), 0);
        due("place behind " + text, console.place(), ProbeConsole.NONE);
    }

    void badMethod(String text, int fault, int place) {
        due("method " + text, method(text), ProbeConsole.NONE);
        due("fault of " + text, console.fault(), fault);
        due("place of " + text, console.place(), place);
    }

    void badCommand(String text, int fault, int place) {
        due("command " + text, command(text), ProbeConsole.NONE);
        due("fault of " + text, console.fault(), fault);
        due("place of " + text, console.place(), place);
    }

    /** A call, whether it threw, and what it returned or threw. */
    void call(int method, int a, int b, int c, int threw, int value) {
        String what = "call(" + method + ", " + a + ", " + b + ", " + c + ")";
        due(what, console.call(method, a, b, c), threw);
        due("value of " + what, console.value(), value);
    }

    /** The whole of a record. */
    void record(int i, int... cells) {
        for (int what = 0; what < cells.length; what++) {
            due("record(" + i + ", " + what + ")", console.record(i, what), cells[what]);
        }
    }

    /** The whole of what was kept. */
    void kept(int i, int... cells) {
        for (int what = 0; what < cells.length; what++) {
            due("kept(" + i + ", " + what + ")", console.kept(i, what), cells[what]);
        }
    }

    void bounds(String what, IntSupplier call) {
        throwing(what, IndexOutOfBoundsException.class, call);
    }

    void argument(String what, IntSupplier call) {
        throwing(what, IllegalArgumentException.class, call);
    }

    private void throwing(String what, Class<? extends RuntimeException> due, IntSupplier call) {
        checks++;
        String got;
        try {
            got = "answered " + call.getAsInt();
        } catch (RuntimeException e) {
            if (e.getClass() == due) {
                return;
            }
            got = "threw " + e;
        }
        wrong++;
        System.out.println(what + " " + got + ", due is " + due.getSimpleName());
    }

    /** Says how it went, and ends with 1 if an answer was wrong. */
    void end(String test) {
        System.out.println(test + ": " + checks + " answers, " + wrong + " not as due");
        if (wrong != 0) {
            System.exit(1);
        }
    }
}
