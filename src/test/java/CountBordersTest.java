/** The borders of TEMPLATES and THE ANSWER, of COUNTS, RARE and WAVE, and of count. */
public final class CountBordersTest {
    private static final int NONE = ComplaintDesk.NONE;
    private static final int[] NO_NUMBERS = {-1, -2, Integer.MIN_VALUE, Integer.MAX_VALUE};

    public static void main(String[] args) {
        tenTemplates();
        templateBits();
        answerWithoutTemplates();
        answerOfTheFewest();
        answerOfTheLeastBits();
        answerNoneSuch();
        answerOfOpenPoints();
        answerOfSixAndOfTen();
        answerAsSortedNow();
        countsOfTheCauseOrBelow();
        countsOfDays();
        countsAsSortedNow();
        rareTwoAtLeast();
        rareByDaysAhead();
        rareNotLess();
        rareOnTheLastDay();
        waveIsTheFirst();
        waveOfWhatIsBelow();
        waveAsSortedNow();
        countOfEachWhat();
        Desk.close();
    }

    /** A desk of so many top causes, of the words a, b, c and so on. */
    private static ComplaintDesk deskOf(int causes) {
        ComplaintDesk x = new ComplaintDesk();
        for (int n = 0; n < causes; n++) {
            Desk.cause(x, "abcdefghijkl".substring(n, n + 1));
        }
        return x;
    }

    private static void toDay(ComplaintDesk x, int day) {
        for (int today = x.count(0); today < day; today = x.count(0)) {
            x.days(Math.min(60, day - today));
        }
    }

    /** So many points of the word a come on that day. */
    private static void come(ComplaintDesk x, int day, int points) {
        toDay(x, day);
        for (int left = points; left > 0; left -= 6) {
            Desk.letter(x, 0, "a.".repeat(Math.min(6, left)));
        }
    }

    private static void tenTemplates() {
        ComplaintDesk x = deskOf(1);
        for (int n = 0; n < 10; n++) {
            Desk.due("18: templates", x.count(8), n);
            Desk.due("15: the same bits are another template", x.template(1), n);
        }
        Desk.letter(x, 0, "a");
        String before = Desk.state(x);
        Desk.due("15: an eleventh", x.template(1), NONE);
        Desk.due("15: it does not come", x.count(8), 10);
        Desk.due("15: it does not come", Desk.state(x), before);
        Desk.dueThrow("15: an eleventh of wrong bits", () -> x.template(0), Desk.ARGUMENT);
        Desk.cause(x, "b");
        Desk.letter(x, 0, "b");
        Desk.due("15: an eleventh of another cause", x.template(2), NONE);
        Desk.due("12: it did not come", x.look(1, 4), NONE);
    }

    private static void templateBits() {
        for (int causes = 0; causes <= 12; causes++) {
            ComplaintDesk x = deskOf(causes);
            int all = (1 << causes) - 1;
            int[] wrong = {0, all + 1, all + 2, 1 << 12, 1 << 30, Integer.MAX_VALUE, -1, Integer.MIN_VALUE,
                Integer.MIN_VALUE + all};
            for (int bits : wrong) {
                Desk.dueThrow("15: bits " + bits + " of " + causes, () -> x.template(bits), Desk.ARGUMENT);
                Desk.due("15: it does not come", x.count(8), 0);
            }
            if (causes > 0) {
                Desk.due("15: the first cause", x.template(1), 0);
                Desk.due("15: the last cause", x.template(1 << causes - 1), 1);
                Desk.due("15: all causes", x.template(all), 2);
            }
        }
        ComplaintDesk x = deskOf(2);
        x.template(1);
        Desk.letter(x, 0, "a. b");
        x.feed(0, 0, 0, 0, 0);
        Desk.refused("15: no bits", x, () -> x.template(0), Desk.ARGUMENT, 20, NONE);
        Desk.refused("15: bits of no cause", x, () -> x.template(7), Desk.ARGUMENT, 20, NONE);
    }

    private static void answerWithoutTemplates() {
        ComplaintDesk x = deskOf(1);
        Desk.letter(x, 0, "a");
        Desk.due("12: without templates none", x.look(0, 4), NONE);
        x.template(1);
        Desk.due("12: then one", x.look(0, 4), 1);
    }

    private static void answerOfTheFewest() {
        ComplaintDesk x = deskOf(4);
        Desk.letter(x, 0, "a. b. c. d");
        x.template(0b0001);
        x.template(0b0010);
        x.template(0b0100);
        Desk.due("12: three have not all", x.look(0, 4), NONE);
        x.template(0b1000);
        Desk.due("12: four", x.look(0, 4), 0b1111);
        x.template(0b1001);
        Desk.due("12: three", x.look(0, 4), 0b10110);
        x.template(0b0111);
        Desk.due("12: two", x.look(0, 4), 0b101000);
        x.template(0b1111);
        Desk.due("12: one, though of higher bits", x.look(0, 4), 0b1000000);
        Desk.letter(x, 0, "d. d. d. a. a");
        Desk.due("12: a cause of several points is one", x.look(1, 4), 0b10000);
    }

    private static void answerOfTheLeastBits() {
        ComplaintDesk x = deskOf(4);
        Desk.letter(x, 0, "a. b. c. d");
        Desk.letter(x, 0, "a. c");
        x.template(0b0011);
        x.template(0b0101);
        x.template(0b1010);
        x.template(0b1100);
        // templates 0 and 3 as well as 1 and 2: bits 1001 are more than 0110
        Desk.due("12: of two sets of two the least bits", x.look(0, 4), 0b0110);
        Desk.due("12: one template of two causes", x.look(1, 4), 0b0010);
        x.template(0b0101);
        Desk.due("12: the same causes of a later template", x.look(1, 4), 0b0010);
        x.template(0b0111);
        Desk.due("12: more causes of a later template", x.look(1, 4), 0b0010);
    }

    private static void answerNoneSuch() {
        ComplaintDesk x = deskOf(3);
        Desk.letter(x, 0, "a. b. c");
        x.template(0b011);
        x.template(0b001);
        x.template(0b010);
        Desk.due("12: one cause is in none", x.look(0, 4), NONE);
        x.template(0b100);
        Desk.due("12: now it is", x.look(0, 4), 0b1001);
    }

    private static void answerOfOpenPoints() {
        ComplaintDesk x = deskOf(1);
        x.template(1);
        Desk.letter(x, 0, "a. z");
        Desk.letter(x, 0, "z");
        Desk.letter(x, 0, "a");
        Desk.due("12: one point is open", x.look(0, 4), NONE);
        Desk.due("12: all points are open", x.look(1, 4), NONE);
        Desk.due("12: none is open", x.look(2, 4), 1);
        x.days(1);
        Desk.due("12: answered, it has one still", x.look(2, 4), 1);
        x.answer(1, 0);
        Desk.due("12: answered, but open", x.look(1, 4), NONE);
    }

    private static void answerOfSixAndOfTen() {
        ComplaintDesk x = deskOf(12);
        Desk.letter(x, 0, "a. b. c. d. e. f");
        Desk.letter(x, 0, "l. k. g. g. g. h");
        for (int n = 0; n < 9; n++) {
            x.template(1 << n);
        }
        Desk.due("12: six templates", x.look(0, 4), 0b111111);
        Desk.due("12: some causes are in none", x.look(1, 4), NONE);
        Desk.due("15: the tenth", x.template(0b110000000000), 9);
        Desk.due("12: the tenth template and the twelfth cause", x.look(1, 4), 0b1011000000);
    }

    private static void answerAsSortedNow() {
        ComplaintDesk x = deskOf(2);
        x.template(0b01);
        x.template(0b10);
        Desk.letter(x, 0, "a. b");
        Desk.due("12: both", x.look(0, 4), 0b11);
        Desk.pattern(x, 0, "a or b");
        Desk.due("12: now of one cause", x.look(0, 4), 0b01);
        Desk.pattern(x, 0, "z");
        Desk.due("12: now one is open", x.look(0, 4), NONE);
        Desk.pattern(x, 1, "not z");
        Desk.due("12: now of the other cause", x.look(0, 4), 0b10);
    }

    private static void countsOfTheCauseOrBelow() {
        ComplaintDesk x = new ComplaintDesk();
        Desk.cause(x, "a");
        Desk.cause(x, 0, 0, 2, false, "b");
        Desk.cause(x, 1, 0, 2, false, "c");
        Desk.cause(x, 0, 0, 2, false, "d");
        Desk.cause(x, "e");
        Desk.letter(x, 0, "a. a b. a b c. a d. e. z");
        int[] want = {4, 2, 1, 1, 1};
        for (int cause = 0; cause < want.length; cause++) {
            Desk.due("16: counts of " + cause, x.counts(cause, 0), want[cause]);
        }
        ComplaintDesk y = new ComplaintDesk();
        for (int n = 0; n < 12; n++) {
            Desk.cause(y, n - 1, 0, 2, false, "a");
        }
        Desk.letter(y, 0, "a. a");
        for (int cause = 0; cause < 12; cause++) {
            Desk.due("16: through whatever steps", y.counts(cause, 0), 2);
        }
    }

    private static void countsOfDays() {
        ComplaintDesk x = deskOf(1);
        Desk.due("16: no letters", x.counts(0, 0), 0);
        come(x, 0, 3);
        come(x, 5, 2);
        come(x, 7, 1);
        x.days(1);
        int[] want = {3, 0, 0, 0, 0, 2, 0, 1, 0, 0, 0};
        for (int day = 0; day < want.length; day++) {
            Desk.due("16: on day " + day, x.counts(0, day), want[day]);
        }
        int[] none = {-1, 9, 400, 401, Integer.MIN_VALUE, Integer.MAX_VALUE};
        for (int day : none) {
            Desk.due("16: a day that is not 0 to today", x.counts(0, day), 0);
            for (int cause : NO_NUMBERS) {
                Desk.dueThrow("16: no cause, of whatever day", () -> x.counts(cause, day), Desk.INDEX);
            }
            Desk.dueThrow("16: cause 1 of one", () -> x.counts(1, day), Desk.INDEX);
        }
        come(x, 400, 80);
        Desk.due("16: on the last day", x.counts(0, 400), 80);
        Desk.due("16: behind it", x.counts(0, 401), 0);
    }

    private static void countsAsSortedNow() {
        ComplaintDesk x = deskOf(2);
        Desk.letter(x, 0, "a. b. a");
        x.answer(0, 2);
        x.days(60);
        Desk.due("16: answered ones are counted", x.counts(0, 0), 2);
        Desk.letter(x, 0, "a. b. z");
        Desk.pattern(x, 0, "b or z");
        Desk.due("16: sorted anew on the day of coming", x.counts(0, 60), 2);
        Desk.due("16: answered ones stay", x.counts(0, 0), 2);
        Desk.due("16: gone from the other", x.counts(1, 60), 0);
    }

    private static void rareTwoAtLeast() {
        int[] wants = {NONE, NONE, 30, 30};
        for (int points = 0; points < wants.length; points++) {
            ComplaintDesk x = deskOf(1);
            come(x, 30, points);
            Desk.due("17: a count of " + points, x.wave(0), wants[points]);
        }
    }

    private static void rareByDaysAhead() {
        for (int day = 0; day <= 21; day++) {
            ComplaintDesk x = deskOf(1);
            come(x, day, 6);
            Desk.due("17: on day " + day + ", none ahead", x.wave(0), day >= 19 ? day : NONE);
        }
        for (int before = 1; before <= 4; before++) {
            int border = 20 * (before + 1) - 1;
            for (int day = border - 1; day <= border + 1; day++) {
                ComplaintDesk x = deskOf(1);
                for (int past = 0; past < before; past++) {
                    come(x, past, 2);
                }
                come(x, day, 2);
                Desk.due("17: on day " + day + " behind " + before + " alike", x.wave(0), day >= border ? day : NONE);
            }
        }
    }

    private static void rareNotLess() {
        int[] before = {0, 1, 2, 3, 4, 7};
        for (int count : before) {
            ComplaintDesk x = deskOf(1);
            come(x, 18, count);
            come(x, 19, 3);
            Desk.due("17: three behind " + count, x.wave(0), count < 3 ? 19 : NONE);
            ComplaintDesk y = deskOf(1);
            come(y, 0, count);
            come(y, 19, 3);
            Desk.due("17: day 0 is ahead too", y.wave(0), count < 3 ? 19 : NONE);
        }
        ComplaintDesk x = deskOf(1);
        come(x, 10, 3);
        come(x, 38, 3);
        come(x, 39, 3);
        Desk.due("17: two are alike, and sixty above forty", x.wave(0), NONE);
        come(x, 50, 7);
        Desk.due("17: above all", x.wave(0), 50);
    }

    private static void rareOnTheLastDay() {
        ComplaintDesk x = deskOf(1);
        for (int past = 0; past < 19; past++) {
            come(x, past, 2);
        }
        come(x, 399, 2);
        Desk.due("17: nineteen alike and one, of 400 days", x.wave(0), 399);
        ComplaintDesk y = deskOf(1);
        for (int past = 0; past < 20; past++) {
            come(y, past, 2);
        }
        come(y, 400, 2);
        Desk.due("17: twenty alike and one are 420, above 401", y.wave(0), NONE);
        come(y, 400, 1);
        Desk.due("17: three are more than any", y.wave(0), 400);
    }

    private static void waveIsTheFirst() {
        ComplaintDesk x = deskOf(1);
        Desk.due("17: of a new cause", x.wave(0), NONE);
        come(x, 25, 2);
        Desk.due("17: today", x.wave(0), 25);
        come(x, 26, 6);
        Desk.due("17: a greater one later", x.wave(0), 25);
        toDay(x, 400);
        Desk.due("17: long since", x.wave(0), 25);
        for (int cause : NO_NUMBERS) {
            Desk.dueThrow("17: no cause", () -> x.wave(cause), Desk.INDEX);
        }
        Desk.dueThrow("17: cause 1 of one", () -> x.wave(1), Desk.INDEX);
    }

    private static void waveOfWhatIsBelow() {
        ComplaintDesk x = new ComplaintDesk();
        Desk.cause(x, "a");
        Desk.cause(x, 0, 0, 2, false, "b");
        Desk.cause(x, 1, 0, 2, false, "c");
        toDay(x, 20);
        Desk.letter(x, 0, "a b. a b c");
        Desk.due("17: of itself and below it", x.wave(1), 20);
        Desk.due("17: below it alone", x.wave(0), 20);
        Desk.due("17: one alone", x.wave(2), NONE);
    }

    private static void waveAsSortedNow() {
        ComplaintDesk x = deskOf(1);
        toDay(x, 20);
        Desk.letter(x, 0, "b. b");
        toDay(x, 30);
        Desk.letter(x, 0, "a. a");
        Desk.due("17: on the day of those that fit", x.wave(0), 30);
        Desk.pattern(x, 0, "a or b");
        Desk.due("17: sorted anew", x.wave(0), 20);
        x.answer(1, 0);
        x.answer(1, 1);
        Desk.pattern(x, 0, "z");
        Desk.due("17: those of then are gone, the answered stay", x.wave(0), 30);
    }

    private static void countOfEachWhat() {
        ComplaintDesk x = deskOf(2);
        x.template(1);
        x.template(2);
        x.template(3);
        Desk.letter(x, 0, "a. b. z. z");
        Desk.letter(x, 0, "z");
        Desk.letter(x, 0, "a. a");
        x.answer(0, 2);
        x.answer(1, 0);
        toDay(x, 4);
        Desk.letter(x, 0, "a. z");
        int[] want = {4, 2, 4, 2, 9, 2, 6, 0, 3};
        for (int what = 0; what <= 8; what++) {
            Desk.due("18: count(" + what + ")", x.count(what), want[what]);
        }
        int[] none = {-1, 9, 10, Integer.MIN_VALUE, Integer.MAX_VALUE};
        for (int what : none) {
            Desk.due("18: another what", x.count(what), NONE);
        }
    }
}
