/** The borders of the calls: how many there may be of each, their numbers, and of which exception is told first. */
public final class CallBordersTest {
    private static final int NONE = ComplaintDesk.NONE;
    private static final int[] FAR = {-2, Integer.MIN_VALUE, Integer.MAX_VALUE};
    private static final String GOOD = "a";
    private static final String WRONG = "a B";
    private static final int WRONG_AT = 2;

    public static void main(String[] args) {
        aNewObject();
        twelveCauses();
        aboveOfALesserNumber();
        deskOfACause();
        daysOfACause();
        causeToldFirst();
        patternOfACause();
        eightyLetters();
        writerOfALetter();
        letterToldFirst();
        answerOfAPoint();
        pointOfALetter();
        pointToldFirst();
        lookOfALetter();
        lateAndWaitsOfADesk();
        tapeIsUsedUp();
        theLastOfManyCalls();
        objectsShareNothing();
        Desk.close();
    }

    /** Two causes, two letters, some answered, a template: what a refused call must leave as it is. */
    private static ComplaintDesk aDesk() {
        ComplaintDesk x = new ComplaintDesk();
        Desk.cause(x, NONE, 0, 9, false, "a");
        Desk.cause(x, 0, 3, 2, true, "b");
        Desk.letter(x, 1, "a. a b. c");
        x.days(1);
        Desk.letter(x, 49, "a b. c. a. a");
        x.answer(1, 1);
        x.template(3);
        return x;
    }

    private static void aNewObject() {
        ComplaintDesk x = new ComplaintDesk();
        for (int what = 0; what <= 8; what++) {
            Desk.due("1: count(" + what + ")", x.count(what), 0);
        }
        Desk.due("7: fault() ahead of any", x.fault(), NONE);
        Desk.dueTape("2: the tape is empty", x, 0);
        for (int desk = 0; desk < 4; desk++) {
            Desk.due("14: none waits", x.waits(desk), 0);
            Desk.due("13: none late", x.late(desk), 0);
        }
        Desk.dueThrow("10: no letter", () -> x.answer(0, 0), Desk.INDEX);
        Desk.dueThrow("11: no letter", () -> x.point(0, 0, 0), Desk.INDEX);
        Desk.dueThrow("12: no letter", () -> x.look(0, 0), Desk.INDEX);
        Desk.dueThrow("5: no cause", () -> x.pattern(0), Desk.INDEX);
        Desk.dueThrow("16: no cause", () -> x.counts(0, 0), Desk.INDEX);
        Desk.dueThrow("17: no cause", () -> x.wave(0), Desk.INDEX);
        Desk.dueThrow("15: no cause", () -> x.template(1), Desk.ARGUMENT);
        Desk.dueThrow("4: none above", () -> x.cause(0, 0, 0, false), Desk.INDEX);
    }

    private static void twelveCauses() {
        ComplaintDesk x = new ComplaintDesk();
        for (int n = 0; n < 12; n++) {
            Desk.due("18: causes", x.count(1), n);
            Desk.due("4: number", Desk.cause(x, n == 3 ? NONE : n - 1, n % 4, 5 * n, n % 2 == 0, "c"), n);
        }
        Desk.due("18: causes", x.count(1), 12);
        Desk.refused("4: a 13th", x, () -> Desk.cause(x, GOOD), Desk.UNSUPPORTED, 0, NONE);
        Desk.refused("4: a 13th", x, () -> Desk.cause(x, 11, 3, 60, true, GOOD), Desk.UNSUPPORTED, 0, NONE);
        Desk.letter(x, 0, "a. c");
        Desk.due("4: it did not come", x.point(0, 0, 0), NONE);
        Desk.due("4: the last of twelve", x.point(0, 1, 0), 2);
        Desk.due("5: the last has a pattern anew", Desk.pattern(x, 11, "a"), 0);
        Desk.dueThrow("5: of the 13th none", () -> Desk.pattern(x, 12, "a"), Desk.INDEX);
    }

    private static void aboveOfALesserNumber() {
        for (int causes = 0; causes < 12; causes++) {
            ComplaintDesk x = new ComplaintDesk();
            for (int n = 0; n < causes; n++) {
                Desk.cause(x, "a");
            }
            int own = causes;
            Desk.refused("4: above itself", x, () -> Desk.cause(x, own, 0, 0, false, GOOD), Desk.INDEX, 0, NONE);
            Desk.refused("4: above later", x, () -> Desk.cause(x, own + 1, 0, 0, false, GOOD), Desk.INDEX, 0, NONE);
            for (int above : FAR) {
                Desk.dueThrow("4: above " + above, () -> Desk.cause(x, above, 0, 0, false, GOOD), Desk.INDEX);
            }
            Desk.due("4: above the last, or a top one", Desk.cause(x, causes - 1, 0, 0, false, GOOD), causes);
        }
    }

    private static void deskOfACause() {
        for (int desk = 0; desk < 4; desk++) {
            ComplaintDesk x = new ComplaintDesk();
            Desk.due("4: desk " + desk, Desk.cause(x, NONE, desk, 0, false, GOOD), 0);
            Desk.letter(x, 0, "a");
            for (int at = 0; at < 4; at++) {
                Desk.due("14: waits there alone", x.waits(at), at == desk ? 1 : 0);
            }
        }
        int[] none = {-1, 4, 5, Integer.MIN_VALUE, Integer.MAX_VALUE};
        for (int desk : none) {
            ComplaintDesk x = aDesk();
            Desk.refused("4: desk " + desk, x, () -> Desk.cause(x, NONE, desk, 0, false, GOOD), Desk.INDEX, 0, NONE);
        }
    }

    private static void daysOfACause() {
        int[] good = {0, 1, 59, 60};
        for (int days : good) {
            ComplaintDesk x = new ComplaintDesk();
            Desk.due("4: days " + days, Desk.cause(x, NONE, 0, days, false, GOOD), 0);
            Desk.letter(x, 0, "a");
            Desk.due("11: due", x.point(0, 0, 1), days);
        }
        int[] none = {-1, 61, Integer.MIN_VALUE, Integer.MAX_VALUE};
        for (int days : none) {
            ComplaintDesk x = aDesk();
            Desk.refused("4: days " + days, x, () -> Desk.cause(x, 0, 0, days, false, GOOD), Desk.ARGUMENT, 0, NONE);
        }
    }

    /** Each call has all that is refused behind what is told first; fault() tells whether the text was read. */
    private static void causeToldFirst() {
        dueCauseRefused("above first", 2, 4, 61, WRONG, Desk.INDEX, NONE);
        dueCauseRefused("then the desk", 1, 4, 61, WRONG, Desk.INDEX, NONE);
        dueCauseRefused("then the days", 1, 3, 61, WRONG, Desk.ARGUMENT, NONE);
        dueCauseRefused("then the text", 1, 3, 60, WRONG, Desk.ARGUMENT, WRONG_AT);
        Desk.due("4: then it comes", Desk.cause(aDesk(), 1, 3, 60, true, GOOD), 2);
    }

    private static void dueCauseRefused(String call, int above, int desk, int days, String text, String want, int fault) {
        ComplaintDesk x = aDesk();
        Desk.refused("4: " + call, x, () -> Desk.cause(x, above, desk, days, true, text), want, 0, fault);
        ComplaintDesk y = new ComplaintDesk();
        for (int n = 0; n < 12; n++) {
            Desk.cause(y, GOOD);
        }
        int last = above == 2 ? 12 : 11;
        Desk.refused("4: of twelve, " + call, y, () -> Desk.cause(y, last, desk, days, true, text), want, 0, fault);
        Desk.refused("4: at last the twelve", y, () -> Desk.cause(y, 11, 3, 60, true, GOOD), Desk.UNSUPPORTED, 0, NONE);
    }

    private static void patternOfACause() {
        int[] none = {-1, 2, 12, Integer.MIN_VALUE, Integer.MAX_VALUE};
        for (int cause : none) {
            ComplaintDesk x = aDesk();
            Desk.refused("5: cause " + cause, x, () -> Desk.pattern(x, cause, "c"), Desk.INDEX, 0, NONE);
            Desk.refused("5: ahead of the text", x, () -> Desk.pattern(x, cause, WRONG), Desk.INDEX, 0, NONE);
            ComplaintDesk y = aDesk();
            Desk.refused("5: the text", y, () -> Desk.pattern(y, 1, WRONG), Desk.ARGUMENT, 0, WRONG_AT);
            Desk.refused("5: then it is not read", y, () -> Desk.pattern(y, cause, GOOD), Desk.INDEX, 0, WRONG_AT);
        }
    }

    private static void eightyLetters() {
        ComplaintDesk x = new ComplaintDesk();
        Desk.cause(x, "a");
        for (int n = 0; n < 79; n++) {
            Desk.due("6: number", Desk.shortLetter(x, n % 50), n);
        }
        Desk.due("18: letters", x.count(2), 79);
        Desk.due("6: the 80th", Desk.letter(x, 7, "a. b"), 79);
        Desk.refused("6: an 81st", x, () -> Desk.letter(x, 0, "b. b"), Desk.UNSUPPORTED, 0, NONE);
        Desk.due("18: letters", x.count(2), 80);
        Desk.due("18: points", x.count(4), 81);
        Desk.due("11: a point of the 80th", x.point(79, 1, 0), NONE);
        Desk.dueThrow("11: none of an 81st", () -> x.point(80, 0, 0), Desk.INDEX);
        Desk.dueThrow("12: none of an 81st", () -> x.look(80, 0), Desk.INDEX);
        Desk.dueThrow("10: none of an 81st", () -> x.answer(80, 0), Desk.INDEX);
        Desk.due("11: a matter of many", x.point(7, 0, 3), 3);
    }

    private static void writerOfALetter() {
        int[] good = {0, 1, 48, 49};
        for (int writer : good) {
            ComplaintDesk x = new ComplaintDesk();
            Desk.due("6: writer " + writer, Desk.letter(x, writer, "a"), 0);
            Desk.due("12: writer", x.look(0, 0), writer);
        }
        int[] none = {-1, 50, Integer.MIN_VALUE, Integer.MAX_VALUE};
        for (int writer : none) {
            ComplaintDesk x = aDesk();
            Desk.refused("6: writer " + writer, x, () -> Desk.letter(x, writer, "a"), Desk.ARGUMENT, 0, NONE);
        }
    }

    private static void letterToldFirst() {
        ComplaintDesk x = aDesk();
        Desk.refused("6: the writer first", x, () -> Desk.letter(x, 50, WRONG), Desk.ARGUMENT, 0, NONE);
        Desk.refused("6: then the text", x, () -> Desk.letter(x, 49, WRONG), Desk.ARGUMENT, 0, WRONG_AT);
        Desk.refused("6: it is not read", x, () -> Desk.letter(x, -1, GOOD), Desk.ARGUMENT, 0, WRONG_AT);
        Desk.due("6: then it comes", Desk.letter(x, 49, GOOD), 2);
        String[] texts = {WRONG, WRONG, GOOD};
        int[] writers = {50, 49, 49};
        String[] wants = {Desk.ARGUMENT, Desk.ARGUMENT, Desk.UNSUPPORTED};
        int[] faults = {NONE, WRONG_AT, NONE};
        for (int n = 0; n < texts.length; n++) {
            String text = texts[n];
            int writer = writers[n];
            ComplaintDesk y = new ComplaintDesk();
            for (int letter = 0; letter < 80; letter++) {
                Desk.shortLetter(y, 0);
            }
            Desk.refused("6: of eighty, the writer, then the text", y, () -> Desk.letter(y, writer, text), wants[n], 0,
                    faults[n]);
        }
    }

    private static void answerOfAPoint() {
        int[][] none = {{-1, 0}, {2, 0}, {0, -1}, {0, 3}, {1, -1}, {1, 4}, {-1, -1}, {2, 3}, {0, 6},
            {Integer.MIN_VALUE, 0}, {Integer.MAX_VALUE, 0}, {0, Integer.MIN_VALUE}, {0, Integer.MAX_VALUE}};
        for (int[] at : none) {
            ComplaintDesk x = aDesk();
            x.feed(0, 0, 0, 0, 0);
            Desk.refused("10: answer(" + at[0] + ", " + at[1] + ")", x, () -> x.answer(at[0], at[1]), Desk.INDEX, 20, NONE);
        }
        ComplaintDesk x = aDesk();
        Desk.due("10: the last point of the last letter", x.answer(1, 3), true);
        Desk.due("10: the first of the first", x.answer(0, 2), true);
        Desk.due("10: it was", x.answer(0, 0), false);
    }

    private static void pointOfALetter() {
        ComplaintDesk x = aDesk();
        int[][] want = {{0, 9, 1, 1, 1}, {1, 2, 1, 1, 2}, {NONE, NONE, NONE, 0, 1}};
        for (int point = 0; point < want.length; point++) {
            for (int what = 0; what <= 4; what++) {
                Desk.due("11: point(0, " + point + ", " + what + ")", x.point(0, point, what), want[point][what]);
            }
        }
        Desk.due("11: the last point of the last letter", x.point(1, 3, 1), 10);
        int[][] none = {{-1, 0}, {2, 0}, {0, -1}, {0, 3}, {1, 4}, {Integer.MIN_VALUE, 0}, {Integer.MAX_VALUE, 0},
            {0, Integer.MIN_VALUE}, {0, Integer.MAX_VALUE}};
        for (int[] at : none) {
            for (int what = 0; what <= 4; what++) {
                int asked = what;
                Desk.dueThrow("11: none such", () -> x.point(at[0], at[1], asked), Desk.INDEX);
            }
        }
    }

    private static void pointToldFirst() {
        ComplaintDesk x = aDesk();
        int[] none = {-1, 5, Integer.MIN_VALUE, Integer.MAX_VALUE};
        for (int what : none) {
            Desk.dueThrow("11: what " + what, () -> x.point(0, 0, what), Desk.ELEMENT);
            Desk.dueThrow("11: of an open one", () -> x.point(0, 2, what), Desk.ELEMENT);
            Desk.dueThrow("11: the letter first", () -> x.point(2, 0, what), Desk.INDEX);
            Desk.dueThrow("11: then the point", () -> x.point(0, 3, what), Desk.INDEX);
            Desk.dueThrow("12: what " + what, () -> x.look(0, what), Desk.ELEMENT);
            Desk.dueThrow("12: the letter first", () -> x.look(2, what), Desk.INDEX);
            Desk.dueThrow("12: the letter first", () -> x.look(-1, what), Desk.INDEX);
        }
        x.feed(0, 0, 0, 0, 0);
        Desk.refused("11: another what", x, () -> x.point(0, 0, 5), Desk.ELEMENT, 20, NONE);
        Desk.refused("12: another what", x, () -> x.look(0, 5), Desk.ELEMENT, 20, NONE);
    }

    private static void lookOfALetter() {
        ComplaintDesk x = aDesk();
        int[][] want = {{1, 0, 3, 0, NONE}, {49, 1, 4, 0, NONE}};
        for (int letter = 0; letter < want.length; letter++) {
            for (int what = 0; what <= 4; what++) {
                Desk.due("12: look(" + letter + ", " + what + ")", x.look(letter, what), want[letter][what]);
            }
        }
        int[] none = {-1, 2, 80, Integer.MIN_VALUE, Integer.MAX_VALUE};
        for (int letter : none) {
            for (int what = 0; what <= 4; what++) {
                int asked = what;
                Desk.dueThrow("12: none such", () -> x.look(letter, asked), Desk.INDEX);
            }
        }
    }

    private static void lateAndWaitsOfADesk() {
        ComplaintDesk x = aDesk();
        Desk.due("14: desk 0", x.waits(0), 2);
        Desk.due("14: desk 3", x.waits(3), 1);
        Desk.due("13: desk 0", x.late(0), 0);
        Desk.due("13: desk 3", x.late(3), 0);
        int[] none = {-1, 4, Integer.MIN_VALUE, Integer.MAX_VALUE};
        x.feed(0, 0, 0, 0, 0);
        for (int desk : none) {
            Desk.dueThrow("13: late(" + desk + ")", () -> x.late(desk), Desk.INDEX);
            Desk.dueThrow("14: waits(" + desk + ")", () -> x.waits(desk), Desk.INDEX);
        }
        Desk.refused("13: no desk", x, () -> x.late(4), Desk.INDEX, 20, NONE);
        Desk.refused("14: no desk", x, () -> x.waits(-1), Desk.INDEX, 20, NONE);
    }

    /** The three calls that read a text use the tape up whether it comes to that or not; others leave it. */
    private static void tapeIsUsedUp() {
        ComplaintDesk x = aDesk();
        Desk.text(x, "c");
        x.answer(0, 0);
        x.hours(0, 3);
        x.days(2);
        x.template(1);
        x.point(0, 0, 0);
        x.look(0, 0);
        x.late(0);
        x.waits(0);
        x.counts(0, 0);
        x.wave(0);
        x.count(0);
        x.fault();
        Desk.dueTape("2: none of these reads it", x, 1);
        Desk.due("4: cause", x.cause(NONE, 0, 0, false), 2);
        Desk.dueTape("4: used up", x, 0);
        Desk.dueThrow("5: pattern of an empty tape", () -> x.pattern(2), Desk.ARGUMENT);
        Desk.text(x, "c");
        Desk.due("5: pattern", x.pattern(2), 1);
        Desk.dueTape("5: used up", x, 0);
        Desk.dueThrow("6: letter of an empty tape", () -> x.letter(0), Desk.ARGUMENT);
        Desk.text(x, "c");
        Desk.due("6: letter", x.letter(0), 2);
        Desk.dueTape("6: used up", x, 0);
        Desk.dueThrow("4: cause of an empty tape", () -> x.cause(NONE, 0, 0, false), Desk.ARGUMENT);
        Desk.due("7: fault", x.fault(), 0);
    }

    private static void theLastOfManyCalls() {
        ComplaintDesk x = new ComplaintDesk();
        Desk.cause(x, "a");
        for (int calls = 4; calls + 5 < 512; calls++) {
            x.count(0);
        }
        Desk.due("6: the 511th call", Desk.letter(x, 0, "a"), 0);
        Desk.due("9: the 512th call", x.days(60), 60);
    }

    private static void objectsShareNothing() {
        ComplaintDesk x = aDesk();
        String before = Desk.state(x);
        ComplaintDesk y = new ComplaintDesk();
        Desk.text(y, "c c");
        y.hours(0, 0);
        y.days(60);
        Desk.dueThrow("1: another's text", () -> y.pattern(0), Desk.INDEX);
        Desk.dueThrow("1: another's text", () -> Desk.letter(y, 0, "1"), Desk.ARGUMENT);
        Desk.due("1: of one object nothing comes to another", Desk.state(x), before);
        Desk.due("1: nor a fault", x.fault(), NONE);
        Desk.dueTape("1: nor a tape", x, 0);
        x.days(1);
        Desk.due("1: nor hours", x.waits(0), 0);
    }
}
