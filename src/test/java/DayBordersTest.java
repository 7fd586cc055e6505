/** The borders of the days: HOURS, the order in which a DESK answers, LATE, CLOSED, and what is answered by hand. */
public final class DayBordersTest {
    private static final int NONE = ComplaintDesk.NONE;

    public static void main(String[] args) {
        todayIsZeroAtFirst();
        daysFromZeroToSixty();
        todayIsFourHundredAtLast();
        nothingIsAnsweredBehindTheLastDay();
        fiveHoursAtFirst();
        hoursFromZeroToTwenty();
        hoursBeginOnTheNextDay();
        lessWaitsThanHours();
        eachDeskItsOwn();
        threatsFirst();
        thenTheLeastDue();
        thenByLetterThenByPoint();
        manyDaysAreDayByDay();
        openOnesByHandAlone();
        answeredByHand();
        closedIfAll();
        lateBehindItsDue();
        lateOfHours();
        lateWithoutHours();
        lateWhateverOrder();
        lateOfSixtyDays();
        lateOnTheLastDay();
        waitsOfADesk();
        answeredBehindTheirDue();
        Desk.close();
    }

    private static void toTheLastDay(ComplaintDesk x) {
        for (int n = 0; n < 7; n++) {
            x.days(60);
        }
    }

    /** On which days the points of a letter were answered. */
    private static void dueAnswered(String call, ComplaintDesk x, int letter, int... want) {
        for (int point = 0; point < want.length; point++) {
            Desk.due(call + ": point " + point + " of letter " + letter, x.point(letter, point, 2), want[point]);
        }
    }

    private static void todayIsZeroAtFirst() {
        ComplaintDesk x = new ComplaintDesk();
        Desk.due("18: today", x.count(0), 0);
        Desk.letter(x, 0, "a");
        Desk.due("12: it came on day 0", x.look(0, 1), 0);
        Desk.due("9: days(0)", x.days(0), 0);
        Desk.due("18: today", x.count(0), 0);
    }

    private static void daysFromZeroToSixty() {
        int[] good = {0, 1, 2, 59, 60};
        for (int n : good) {
            ComplaintDesk x = new ComplaintDesk();
            Desk.due("9: days(" + n + ")", x.days(n), n);
            Desk.due("18: today", x.count(0), n);
        }
        int[] none = {-1, 61, -60, Integer.MIN_VALUE, Integer.MAX_VALUE};
        for (int n : none) {
            ComplaintDesk x = new ComplaintDesk();
            Desk.cause(x, "a");
            Desk.letter(x, 0, "a. b");
            x.feed(0, 0, 0, 0, 0);
            Desk.refused("9: days(" + n + ")", x, () -> x.days(n), Desk.ARGUMENT, 20, NONE);
        }
        ComplaintDesk x = new ComplaintDesk();
        Desk.cause(x, "a");
        Desk.letter(x, 0, "a");
        x.days(0);
        dueAnswered("9: no day, no answer", x, 0, NONE);
        x.days(1);
        dueAnswered("9: on the first day", x, 0, 1);
    }

    private static void todayIsFourHundredAtLast() {
        int[] steps = {0, 1, 9, 10, 11, 60};
        for (int n : steps) {
            ComplaintDesk x = new ComplaintDesk();
            for (int sixty = 0; sixty < 6; sixty++) {
                x.days(60);
            }
            x.days(30);
            Desk.due("9: 390 and " + n, x.days(n), Math.min(400, 390 + n));
            Desk.due("18: today", x.count(0), Math.min(400, 390 + n));
        }
        ComplaintDesk x = new ComplaintDesk();
        toTheLastDay(x);
        Desk.due("18: 420 are 400", x.count(0), 400);
        Desk.due("9: none more", x.days(0), 400);
        Desk.due("9: one more", x.days(1), 400);
        Desk.due("9: sixty more", x.days(60), 400);
        Desk.dueThrow("9: 61 are refused then too", () -> x.days(61), Desk.ARGUMENT);
        Desk.letter(x, 0, "a");
        Desk.due("12: it came on the last day", x.look(0, 1), 400);
    }

    private static void nothingIsAnsweredBehindTheLastDay() {
        ComplaintDesk x = new ComplaintDesk();
        Desk.cause(x, "a");
        for (int sixty = 0; sixty < 6; sixty++) {
            x.days(60);
        }
        x.days(39);
        x.hours(0, 1);
        Desk.letter(x, 0, "a. a. a");
        Desk.due("9: the last day", x.days(60), 400);
        dueAnswered("9: one on the last day", x, 0, 400, NONE, NONE);
        x.days(1);
        dueAnswered("9: none behind it", x, 0, 400, NONE, NONE);
        Desk.due("10: by hand all the same", x.answer(0, 2), true);
        dueAnswered("10: on the last day", x, 0, 400, NONE, 400);
    }

    private static void fiveHoursAtFirst() {
        for (int desk = 0; desk < 4; desk++) {
            ComplaintDesk x = new ComplaintDesk();
            Desk.cause(x, NONE, desk, 60, false, "a");
            Desk.letter(x, 0, "a.a.a.a.a.a");
            Desk.letter(x, 0, "a.a.a.a.a");
            x.days(1);
            dueAnswered("8: five at first", x, 0, 1, 1, 1, 1, 1, NONE);
            x.days(1);
            dueAnswered("8: five at first", x, 0, 1, 1, 1, 1, 1, 2);
            dueAnswered("8: five at first", x, 1, 2, 2, 2, 2, NONE);
        }
    }

    private static void hoursFromZeroToTwenty() {
        int[] good = {0, 1, 19, 20};
        for (int desk = 0; desk < 4; desk++) {
            for (int n : good) {
                ComplaintDesk x = new ComplaintDesk();
                Desk.cause(x, NONE, desk, 60, false, "a");
                for (int letter = 0; letter < 7; letter++) {
                    Desk.letter(x, 0, "a.a.a.a.a.a");
                }
                x.hours(desk, n);
                x.days(1);
                Desk.due("8: hours(" + desk + ", " + n + ")", x.waits(desk), 42 - n);
                x.days(1);
                Desk.due("8: hours(" + desk + ", " + n + ")", x.waits(desk), 42 - 2 * n);
            }
        }
        int[] noHours = {-1, 21, Integer.MIN_VALUE, Integer.MAX_VALUE};
        for (int n : noHours) {
            dueHoursStay(0, n, Desk.ARGUMENT);
            dueHoursStay(3, n, Desk.ARGUMENT);
        }
        int[] noDesks = {-1, 4, Integer.MIN_VALUE, Integer.MAX_VALUE};
        for (int desk : noDesks) {
            dueHoursStay(desk, 3, Desk.INDEX);
            dueHoursStay(desk, -1, Desk.INDEX);
            dueHoursStay(desk, 21, Desk.INDEX);
        }
    }

    private static void dueHoursStay(int desk, int n, String want) {
        ComplaintDesk x = new ComplaintDesk();
        for (int at = 0; at < 4; at++) {
            Desk.cause(x, NONE, at, 60, false, "abcd".substring(at, at + 1));
            x.hours(at, at + 1);
        }
        for (int letter = 0; letter < 5; letter++) {
            Desk.letter(x, 0, "a. b. c. d");
        }
        x.feed(0, 0, 0, 0, 0);
        Desk.refused("8: hours(" + desk + ", " + n + ")", x, () -> x.hours(desk, n), want, 20, NONE);
        x.days(1);
        for (int at = 0; at < 4; at++) {
            Desk.due("8: the hours stay", x.waits(at), 5 - (at + 1));
        }
    }

    private static void hoursBeginOnTheNextDay() {
        ComplaintDesk x = new ComplaintDesk();
        Desk.cause(x, "a");
        Desk.letter(x, 0, "a. a. a. a. a. a");
        x.hours(0, 2);
        Desk.due("8: nothing is answered by it", x.waits(0), 6);
        x.days(1);
        x.hours(0, 3);
        Desk.due("8: nor what was not on that day", x.waits(0), 4);
        x.days(1);
        dueAnswered("8: two, then three", x, 0, 1, 1, 2, 2, 2, NONE);
    }

    private static void lessWaitsThanHours() {
        ComplaintDesk x = new ComplaintDesk();
        Desk.cause(x, "a");
        x.days(1);
        Desk.letter(x, 0, "a. a. a. a. a");
        x.days(1);
        dueAnswered("9: five of five", x, 0, 2, 2, 2, 2, 2);
        Desk.letter(x, 0, "a. a. a. a");
        x.days(1);
        dueAnswered("9: four of five", x, 1, 3, 3, 3, 3);
        Desk.letter(x, 0, "a. a. a. a. a. a");
        x.days(1);
        dueAnswered("9: hours are not kept for later", x, 2, 4, 4, 4, 4, 4, NONE);
    }

    private static void eachDeskItsOwn() {
        ComplaintDesk x = new ComplaintDesk();
        for (int at = 0; at < 4; at++) {
            Desk.cause(x, NONE, at, 9, false, "abcd".substring(at, at + 1));
            x.hours(at, at);
        }
        Desk.letter(x, 0, "a. a. b. b. b. b");
        Desk.letter(x, 0, "c. c. c. d. d. d");
        x.days(1);
        dueAnswered("9: each desk as many as its hours", x, 0, NONE, NONE, 1, NONE, NONE, NONE);
        dueAnswered("9: each desk as many as its hours", x, 1, 1, 1, NONE, 1, 1, 1);
    }

    private static void threatsFirst() {
        ComplaintDesk x = new ComplaintDesk();
        Desk.cause(x, NONE, 0, 0, false, "a");
        Desk.cause(x, NONE, 0, 60, true, "b");
        Desk.letter(x, 0, "a. b. a");
        Desk.letter(x, 0, "a. b");
        x.hours(0, 1);
        x.days(5);
        dueAnswered("9: threats, though due later", x, 0, 3, 1, 4);
        dueAnswered("9: threats, though of a later letter", x, 1, 5, 2);
    }

    private static void thenTheLeastDue() {
        ComplaintDesk x = new ComplaintDesk();
        Desk.cause(x, NONE, 0, 9, false, "a");
        Desk.cause(x, NONE, 0, 8, false, "b");
        Desk.cause(x, NONE, 0, 60, true, "c");
        Desk.cause(x, NONE, 0, 59, true, "d");
        Desk.letter(x, 0, "a. b. c. d");
        x.hours(0, 1);
        x.days(4);
        dueAnswered("9: of threats too", x, 0, 4, 3, 2, 1);
        ComplaintDesk y = new ComplaintDesk();
        Desk.cause(y, NONE, 0, 9, false, "a");
        Desk.cause(y, NONE, 0, 2, false, "b");
        y.hours(0, 0);
        Desk.letter(y, 0, "a. a");
        y.days(6);
        Desk.letter(y, 0, "b. a");
        y.days(1);
        y.hours(0, 1);
        y.days(4);
        dueAnswered("9: the day of it, not the days to it", y, 0, 9, 10);
        dueAnswered("9: the day of it, not the days to it", y, 1, 8, 11);
    }

    private static void thenByLetterThenByPoint() {
        ComplaintDesk x = new ComplaintDesk();
        Desk.cause(x, NONE, 0, 7, false, "a");
        Desk.cause(x, NONE, 0, 6, false, "b");
        x.hours(0, 0);
        Desk.letter(x, 49, "c. a. a");
        x.days(1);
        Desk.letter(x, 0, "b. a. b");
        x.hours(0, 1);
        x.days(5);
        dueAnswered("9: of one due the first letter's, and its first point", x, 0, NONE, 2, 3);
        dueAnswered("9: of one due the later letter's, whatever writer", x, 1, 4, 6, 5);
    }

    private static void manyDaysAreDayByDay() {
        ComplaintDesk x = new ComplaintDesk();
        ComplaintDesk y = new ComplaintDesk();
        ComplaintDesk[] both = {x, y};
        for (ComplaintDesk desk : both) {
            Desk.cause(desk, NONE, 0, 3, false, "a");
            Desk.cause(desk, NONE, 0, 1, true, "b");
            desk.hours(0, 2);
            Desk.letter(desk, 0, "a. b. a. c. b. a");
            Desk.letter(desk, 1, "b. b. b. a. a. a");
        }
        x.days(5);
        for (int n = 0; n < 5; n++) {
            y.days(1);
        }
        Desk.due("9: five at once are five", Desk.state(x), Desk.state(y));
        dueAnswered("9: two a day", x, 0, 3, 1, 4, NONE, 1, 4);
        dueAnswered("9: two a day", x, 1, 2, 2, 3, 5, 5, NONE);
    }

    private static void openOnesByHandAlone() {
        ComplaintDesk x = new ComplaintDesk();
        Desk.cause(x, "a");
        for (int desk = 0; desk < 4; desk++) {
            x.hours(desk, 20);
        }
        Desk.letter(x, 0, "b. a");
        x.days(60);
        dueAnswered("9: no desk answers it", x, 0, NONE, 1);
        Desk.due("18: open", x.count(5), 1);
        Desk.due("10: by hand", x.answer(0, 0), true);
        dueAnswered("10: by hand", x, 0, 60, 1);
        Desk.due("18: open, but answered", x.count(5), 0);
        Desk.due("11: it stays open", x.point(0, 0, 0), NONE);
    }

    private static void answeredByHand() {
        ComplaintDesk x = new ComplaintDesk();
        Desk.cause(x, "a");
        x.hours(0, 1);
        Desk.letter(x, 0, "a. a. a");
        Desk.due("10: on day 0", x.answer(0, 1), true);
        dueAnswered("10: day 0 is a day", x, 0, NONE, 0, NONE);
        Desk.due("10: on day 0 again", x.answer(0, 1), false);
        Desk.due("18: answered", x.count(6), 1);
        x.days(1);
        dueAnswered("9: the desk passes it by", x, 0, 1, 0, NONE);
        Desk.due("10: answered by the desk", x.answer(0, 0), false);
        Desk.due("10: answered by hand long since", x.answer(0, 1), false);
        dueAnswered("10: nothing changes", x, 0, 1, 0, NONE);
        Desk.due("10: the third", x.answer(0, 2), true);
        x.days(1);
        dueAnswered("9: the day stays", x, 0, 1, 0, 1);
    }

    private static void closedIfAll() {
        for (int points = 1; points <= 6; points++) {
            ComplaintDesk x = new ComplaintDesk();
            Desk.letter(x, 0, "a.".repeat(points));
            Desk.letter(x, 0, "a");
            for (int point = points - 1; point >= 0; point--) {
                Desk.due("12: not all", x.look(0, 3), 0);
                Desk.due("18: closed", x.count(3), 0);
                x.answer(0, point);
            }
            Desk.due("12: all", x.look(0, 3), 1);
            Desk.due("12: another letter", x.look(1, 3), 0);
            Desk.due("18: closed", x.count(3), 1);
        }
        ComplaintDesk x = new ComplaintDesk();
        Desk.cause(x, "a");
        x.hours(0, 2);
        Desk.letter(x, 0, "a. a. a");
        x.days(1);
        Desk.due("12: two of three", x.look(0, 3), 0);
        x.days(1);
        Desk.due("12: by the desk", x.look(0, 3), 1);
    }

    private static void lateBehindItsDue() {
        ComplaintDesk x = new ComplaintDesk();
        Desk.cause(x, NONE, 0, 1, false, "a");
        Desk.cause(x, NONE, 0, 0, false, "b");
        Desk.due("13: none waits", x.late(0), 0);
        Desk.letter(x, 0, "a");
        Desk.due("13: due on the next day", x.late(0), 0);
        Desk.letter(x, 0, "b");
        Desk.due("13: due today", x.late(0), 1);
        x.hours(0, 0);
        x.days(1);
        x.hours(0, 5);
        Desk.due("13: due yesterday, and today", x.late(0), 2);
        x.answer(0, 0);
        Desk.due("13: answered ones are none", x.late(0), 1);
        x.days(1);
        Desk.due("13: nothing waits any more", x.late(0), 0);
    }

    private static void lateOfHours() {
        int[] hours = {1, 2, 19, 20};
        for (int n : hours) {
            for (int ahead = 1; ahead <= 2; ahead++) {
                ComplaintDesk x = new ComplaintDesk();
                Desk.cause(x, NONE, 2, ahead, false, "a");
                x.hours(2, n);
                for (int point = 0; point < n * ahead; point++) {
                    Desk.letter(x, 0, "a");
                }
                Desk.due("13: as many as the hours until then", x.late(2), 0);
                Desk.letter(x, 0, "a");
                Desk.due("13: one more", x.late(2), 1);
                Desk.letter(x, 0, "a. b. a");
                Desk.due("13: three more", x.late(2), 3);
                Desk.due("13: another desk", x.late(1), 0);
            }
        }
    }

    private static void lateWithoutHours() {
        ComplaintDesk x = new ComplaintDesk();
        Desk.cause(x, NONE, 1, 60, false, "a");
        Desk.cause(x, NONE, 1, 0, true, "b");
        x.hours(1, 0);
        Desk.due("13: all of none", x.late(1), 0);
        Desk.letter(x, 0, "a. b. c. a");
        Desk.due("13: all but the open one", x.late(1), 3);
        x.answer(0, 0);
        Desk.due("13: all that wait", x.late(1), 2);
        x.hours(1, 1);
        Desk.due("13: with one hour the one due today alone", x.late(1), 1);
    }

    private static void lateWhateverOrder() {
        ComplaintDesk x = new ComplaintDesk();
        Desk.cause(x, NONE, 0, 1, false, "a");
        Desk.cause(x, NONE, 0, 2, false, "b");
        Desk.cause(x, NONE, 0, 60, true, "c");
        x.hours(0, 1);
        Desk.letter(x, 0, "c. a. b");
        Desk.due("13: the threat can wait", x.late(0), 0);
        Desk.letter(x, 0, "b");
        Desk.due("13: three in two days", x.late(0), 1);
        Desk.letter(x, 0, "a. a");
        Desk.due("13: what is late already can be last", x.late(0), 3);
        Desk.due("13: nothing is changed by it", x.waits(0), 6);
        ComplaintDesk y = new ComplaintDesk();
        Desk.cause(y, NONE, 0, 1, false, "a");
        Desk.cause(y, NONE, 0, 3, false, "b");
        y.hours(0, 2);
        Desk.letter(y, 0, "a. a. a. b. b. b");
        Desk.due("13: the third of the first day is late, the rest not", y.late(0), 1);
        Desk.letter(y, 0, "b");
        Desk.due("13: hours of two days for four", y.late(0), 1);
        Desk.letter(y, 0, "b");
        Desk.due("13: not for five", y.late(0), 2);
    }

    private static void lateOfSixtyDays() {
        ComplaintDesk x = new ComplaintDesk();
        Desk.cause(x, NONE, 0, 60, false, "a");
        x.hours(0, 1);
        for (int n = 0; n < 10; n++) {
            Desk.letter(x, 0, "a.a.a.a.a.a");
        }
        Desk.due("13: sixty in sixty days", x.late(0), 0);
        Desk.letter(x, 0, "a");
        Desk.due("13: 61 in sixty days", x.late(0), 1);
        x.hours(0, 2);
        Desk.due("13: in twice the hours", x.late(0), 0);
    }

    private static void lateOnTheLastDay() {
        ComplaintDesk x = new ComplaintDesk();
        Desk.cause(x, NONE, 0, 1, false, "a");
        Desk.cause(x, NONE, 0, 0, false, "b");
        toTheLastDay(x);
        Desk.letter(x, 0, "a. b");
        Desk.due("13: if days went on, one were kept", x.late(0), 1);
    }

    private static void waitsOfADesk() {
        ComplaintDesk x = new ComplaintDesk();
        Desk.cause(x, NONE, 0, 1, false, "a");
        Desk.cause(x, 0, 3, 1, false, "b");
        Desk.letter(x, 0, "a. a b. c. a b");
        int[] want = {1, 0, 0, 2};
        for (int desk = 0; desk < 4; desk++) {
            Desk.due("14: waits(" + desk + ")", x.waits(desk), want[desk]);
        }
        x.answer(0, 3);
        x.answer(0, 2);
        Desk.due("14: less one answered by hand", x.waits(3), 1);
        x.days(1);
        Desk.due("14: none behind a day", x.waits(3), 0);
        Desk.due("14: none behind a day", x.waits(0), 0);
    }

    private static void answeredBehindTheirDue() {
        ComplaintDesk x = new ComplaintDesk();
        x.hours(0, 0);
        Desk.cause(x, NONE, 0, 2, false, "a");
        Desk.letter(x, 0, "a. a. a. a. b");
        x.days(1);
        x.answer(0, 0);
        Desk.due("18: ahead of its due", x.count(7), 0);
        x.days(1);
        x.answer(0, 1);
        Desk.due("18: on its due", x.count(7), 0);
        x.days(1);
        Desk.due("18: not answered at all", x.count(7), 0);
        x.answer(0, 2);
        Desk.due("18: a day behind it", x.count(7), 1);
        x.answer(0, 4);
        Desk.due("18: an open one has no due", x.count(7), 1);
        x.hours(0, 1);
        x.days(1);
        Desk.due("18: by the desk behind it", x.count(7), 2);
        Desk.due("18: answered", x.count(6), 5);
    }
}
