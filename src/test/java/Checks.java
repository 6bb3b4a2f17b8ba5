import java.nio.charset.StandardCharsets;
import java.util.NoSuchElementException;

/** What all tests share: texts fed as numbers, answers compared, a count of what is wrong. */
final class Checks {
    /** The valley of most tests; its parts are told in the tests that use it. */
    static final String HEAD = "valley winter 3 bears 10 coins 2 3 1 5";

    private final String name;
    private String part = "";
    private int done = 0;
    private int wrong = 0;

    Checks(String name) {
        this.name = name;
    }

    void is(String what, long got, long due) {
        done++;
        if (got != due) {
            wrong++;
            System.out.println(name + ": " + part + what + " answered " + got + ", due is " + due);
        }
    }

    void is(String what, boolean got, boolean due) {
        is(what, got ? 1 : 0, due ? 1 : 0);
    }

    /** An answer that is refused with a number of TROUBLE; the call is made by the caller. */
    void refused(GraftQuarrel x, String what, long got, long due, int trouble) {
        is(what, got, due);
        is("trouble() behind " + what, x.trouble(), trouble);
    }

    /** An answer that is not refused. */
    void goes(GraftQuarrel x, String what, long got, long due) {
        refused(x, what, got, due, 0);
    }

    void throwsNone(GraftQuarrel x, int i) {
        boolean thrown = false;
        try {
            x.led(i);
        } catch (NoSuchElementException e) {
            thrown = true;
        }
        is("led(" + i + ") throws", thrown, true);
    }

    /** A text that has a FAULT at the first sign behind the bar, which isn't part of it. */
    void bad(int fault, String barred) {
        int place = barred.indexOf('|');
        String text = barred.substring(0, place) + barred.substring(place + 1);
        GraftQuarrel x = new GraftQuarrel();
        refused(x, "valley of " + barred, tell(x, text), -1, 4);
        is("fault() of " + barred, x.fault(), fault);
        is("where() of " + barred, x.where(), place);
    }

    /** A text without a FAULT. */
    void good(int quarrels, String text) {
        GraftQuarrel x = new GraftQuarrel();
        goes(x, "valley of " + text, tell(x, text), quarrels);
        is("fault() of " + text, x.fault(), 0);
        is("where() of " + text, x.where(), -1);
    }

    /** A part of a test, named in what is printed; it must look at an answer. */
    void part(String called, Runnable test) {
        int before = done;
        part = called + ": ";
        try {
            test.run();
        } catch (RuntimeException | Error e) {
            is("nothing is thrown, but " + e, false, true);
        }
        is("answers are looked at", done > before, true);
        part = "";
    }

    /** Ends the program: with 1 if an answer was wrong or none was looked at. */
    void end() {
        System.out.println(name + ": " + done + " answers, " + wrong + " wrong");
        if (wrong != 0 || done == 0) {
            System.exit(1);
        }
    }

    /** Puts a text on THE TAPE, filled up with blanks to twenty bytes; its own length. */
    static int put(GraftQuarrel x, String text) {
        byte[] bytes = text.getBytes(StandardCharsets.ISO_8859_1);
        for (int at = 0; at < bytes.length; at += 20) {
            x.feed(four(bytes, at), four(bytes, at + 4), four(bytes, at + 8),
                    four(bytes, at + 12), four(bytes, at + 16));
        }
        return bytes.length;
    }

    private static int four(byte[] bytes, int from) {
        int number = 0;
        for (int i = from; i < from + 4; i++) {
            number = number << 8 | (i < bytes.length ? bytes[i] & 255 : ' ');
        }
        return number;
    }

    /** Feeds a text and makes it the valley. */
    static int tell(GraftQuarrel x, String text) {
        return x.valley(put(x, text));
    }

    /** A new object whose valley is of these lines behind HEAD. */
    static GraftQuarrel of(String... lines) {
        return ofText(HEAD + ";" + String.join(";", lines));
    }

    /** A new object with coins 1 1 1 1, families a to f of one each, and these lines. */
    static GraftQuarrel six(int winter, int bears, String... lines) {
        return ofText(sixText(winter, bears, lines));
    }

    static String sixText(int winter, int bears, String... lines) {
        return "valley winter " + winter + " bears " + bears + " coins 1 1 1 1"
                + ";family a people 1;family b people 1;family c people 1"
                + ";family d people 1;family e people 1;family f people 1;" + String.join(";", lines);
    }

    /** Seasons that go by. */
    static void pass(GraftQuarrel x, int seasons) {
        for (int i = 0; i < seasons; i++) {
            if (x.season() < 0) {
                throw new IllegalStateException("season() is refused");
            }
        }
    }

    static GraftQuarrel ofText(String text) {
        GraftQuarrel x = new GraftQuarrel();
        if (tell(x, text) < 1) {
            throw new IllegalStateException("fault " + x.fault() + " at " + x.where() + " of " + text);
        }
        return x;
    }
}
