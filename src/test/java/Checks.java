import java.nio.charset.StandardCharsets;
import java.util.NoSuchElementException;

/** What all tests share: texts fed as numbers, answers compared, a count of what is wrong. */
final class Checks {
    /** The valley of most tests; its parts are told in the tests that use it. */
    static final String HEAD = "valley winter 3 bears 10 coins 2 3 1 5";

    private final String name;
    private int done = 0;
    private int wrong = 0;

    Checks(String name) {
        this.name = name;
    }

    void is(String what, long got, long due) {
        done++;
        if (got != due) {
            wrong++;
            System.out.println(name + ": " + what + " answered " + got + ", due is " + due);
        }
    }

    void is(String what, boolean got, boolean due) {
        is(what, got ? 1 : 0, due ? 1 : 0);
    }

    /** An answer that is refused with a number of TROUBLE; the call is made by the caller. */
    void refused(GraftQuarrel x, String what, long got, long due, int trouble) {
        is(what, got, due);
        is("trouble() behind " + what, x.trouble(), trouble);
    }

    /** An answer that is not refused. */
    void goes(GraftQuarrel x, String what, long got, long due) {
        refused(x, what, got, due, 0);
    }

    void throwsNone(GraftQuarrel x, int i) {
        boolean thrown = false;
        try {
            x.led(i);
        } catch (NoSuchElementException e) {
            thrown = true;
        }
        is("led(" + i + ") throws", thrown, true);
    }

    /** Ends the program: with 1 if an answer was wrong or none was looked at. */
    void end() {
        System.out.println(name + ": " + done + " answers, " + wrong + " wrong");
        if (wrong != 0 || done == 0) {
            System.exit(1);
        }
    }

    /** Puts a text on THE TAPE, filled up with blanks to twenty bytes; its own length. */
    static int put(GraftQuarrel x, String text) {
        byte[] bytes = text.getBytes(StandardCharsets.ISO_8859_1);
        for (int at = 0; at < bytes.length; at += 20) {
            x.feed(four(bytes, at), four(bytes, at + 4), four(bytes, at + 8),
                    four(bytes, at + 12), four(bytes, at + 16));
        }
        return bytes.length;
    }

    private static int four(byte[] bytes, int from) {
        int number = 0;
        for (int i = from; i < from + 4; i++) {
            number = number << 8 | (i < bytes.length ? bytes[i] & 255 : ' ');
        }
        return number;
    }

    /** Feeds a text and makes it the valley. */
    static int tell(GraftQuarrel x, String text) {
        return x.valley(put(x, text));
    }

    /** A new object whose valley is of these lines behind HEAD. */
    static GraftQuarrel of(String... lines) {
        return ofText(HEAD + ";" + String.join(";", lines));
    }

    static GraftQuarrel ofText(String text) {
        GraftQuarrel x = new GraftQuarrel();
        if (tell(x, text) < 1) {
            throw new IllegalStateException("fault " + x.fault() + " at " + x.where() + " of " + text);
        }
        return x;
    }
}
