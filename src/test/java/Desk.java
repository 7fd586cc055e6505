import java.nio.charset.StandardCharsets;
import java.util.Arrays;

/** What the tests share: calls told in plain texts, and the counting of wrong answers. */
final class Desk {
    static final String NOTHING = "nothing";
    static final String INDEX = "java.lang.IndexOutOfBoundsException";
    static final String ARGUMENT = "java.lang.IllegalArgumentException";
    static final String UNSUPPORTED = "java.lang.UnsupportedOperationException";
    static final String ELEMENT = "java.util.NoSuchElementException";

    private static int checks = 0;
    private static int wrong = 0;

    interface Call {
        void run();
    }

    private Desk() {
    }

    static void due(String call, Object got, Object want) {
        checks++;
        if (!want.equals(got)) {
            wrong++;
            if (wrong <= 40) {
                System.out.println(call + " answered " + got + ", due is " + want);
            }
        }
    }

    /** The name of what the call throws. */
    static String thrown(Call call) {
        try {
            call.run();
            return NOTHING;
        } catch (RuntimeException e) {
            return nameOf(e);
        }
    }

    /** What the class throws itself has its plain name; what a list or the machine throws in it is never due. */
    static String nameOf(RuntimeException e) {
        StackTraceElement[] way = e.getStackTrace();
        boolean own = way.length > 0 && way[0].getClassName().startsWith("ComplaintDesk");
        return own ? e.getClass().getName() : "not thrown by the class itself: " + e;
    }

    static void dueThrow(String call, Call made, String want) {
        due(call + " throws", thrown(made), want);
    }

    static void close() {
        System.out.println(checks + " answers, " + wrong + " not as due");
        if (wrong != 0 || checks == 0) {
            System.exit(1);
        }
    }

    static void text(ComplaintDesk desk, String text) {
        bytes(desk, text.getBytes(StandardCharsets.ISO_8859_1));
    }

    static void bytes(ComplaintDesk desk, byte[] text) {
        desk.end(0);
        for (int from = 0; from < text.length; from += 20) {
            byte[] row = Arrays.copyOfRange(text, from, from + 20);
            desk.feed(number(row, 0), number(row, 4), number(row, 8), number(row, 12), number(row, 16));
        }
        desk.end(text.length);
    }

    private static int number(byte[] row, int at) {
        return (row[at] & 255) << 24 | (row[at + 1] & 255) << 16 | (row[at + 2] & 255) << 8 | row[at + 3] & 255;
    }

    static int cause(ComplaintDesk desk, int above, int at, int days, boolean threat, String text) {
        text(desk, text);
        return desk.cause(above, at, days, threat);
    }

    /** A top cause at desk 0, due in 2 days. */
    static int cause(ComplaintDesk desk, String text) {
        return cause(desk, ComplaintDesk.NONE, 0, 2, false, text);
    }

    static int letter(ComplaintDesk desk, int writer, String text) {
        text(desk, text);
        return desk.letter(writer);
    }

    static int pattern(ComplaintDesk desk, int cause, String text) {
        text(desk, text);
        return desk.pattern(cause);
    }

    /** A letter of the one word a in two calls, for runs that have few calls left. */
    static int shortLetter(ComplaintDesk desk, int writer) {
        desk.feed(0x61202020, 0x20202020, 0x20202020, 0x20202020, 0x20202020);
        return desk.letter(writer);
    }

    /** end() of all that there is changes nothing, and of one byte more it tells that there are not so many. */
    static void dueTape(String call, ComplaintDesk desk, int bytes) {
        due(call + ": one byte more on the tape", desk.end(bytes + 1), false);
        due(call + ": so many bytes on the tape", desk.end(bytes), true);
    }

    /** A call that is refused: what it throws, and that all is as it was but for the tape and fault(). */
    static void refused(String call, ComplaintDesk desk, Call made, String want, int tapeThen, int faultThen) {
        String before = state(desk);
        dueThrow(call, made, want);
        due(call + ": fault() then", desk.fault(), faultThen);
        dueTape(call, desk, tapeThen);
        due(call + ": all stays", state(desk), before);
    }

    /** All that the desk tells without being changed, but for fault(); of many letters the first and the last two. */
    static String state(ComplaintDesk desk) {
        StringBuilder all = new StringBuilder();
        for (int what = 0; what <= 8; what++) {
            all.append(desk.count(what)).append(' ');
        }
        for (int at = 0; at < 4; at++) {
            all.append('d').append(desk.waits(at)).append(' ').append(desk.late(at)).append(' ');
        }
        int today = desk.count(0);
        int causes = desk.count(1);
        for (int cause = 0; cause < causes; cause++) {
            all.append('c').append(desk.wave(cause)).append(' ').append(desk.counts(cause, today)).append(' ');
        }
        int letters = desk.count(2);
        for (int letter = 0; letter < letters; letter++) {
            if (letter < 2 || letter >= letters - 2) {
                all.append(stateOfLetter(desk, letter));
            }
        }
        return all.toString();
    }

    private static String stateOfLetter(ComplaintDesk desk, int letter) {
        StringBuilder all = new StringBuilder("l");
        for (int what = 0; what <= 4; what++) {
            all.append(desk.look(letter, what)).append(' ');
        }
        int points = desk.look(letter, 2);
        for (int point = 0; point < points; point++) {
            for (int what = 0; what <= 4; what++) {
                all.append(desk.point(letter, point, what)).append(' ');
            }
        }
        return all.toString();
    }
}
