/** The borders of sorting: which PATTERN FITS, the CAUSE of a POINT, its DUE, its MATTER, and SORTED anew. */
public final class SortBordersTest {
    private static final int NONE = ComplaintDesk.NONE;

    public static void main(String[] args) {
        eachWordIsAmongThePoints();
        notIsNotAmongThem();
        someAll();
        wordsAreWholeWords();
        aPointAlone();
        firstTopOne();
        thenBelowIt();
        asLongAsOneDoes();
        openWithoutTopOne();
        causeSortsNothing();
        dueOfZeroAndSixtyDays();
        dueStaysButSorted();
        matterOfWriterAndCause();
        matterAsSortedNow();
        sortedAnewNotAnswered();
        sortedAnewHowMany();
        sortedAnewIsDueFromTheComing();
        sortedAnewByAllCauses();
        sortedAnewGoesToAnotherDesk();
        wrongPatternLeavesAll();
        Desk.close();
    }

    private static void dueFit(String pattern, String text, boolean want) {
        ComplaintDesk x = new ComplaintDesk();
        Desk.cause(x, pattern);
        Desk.letter(x, 0, text);
        Desk.due("4: '" + pattern + "' fits '" + text + "'", x.point(0, 0, 0), want ? 0 : NONE);
        ComplaintDesk y = new ComplaintDesk();
        Desk.cause(y, want ? "zzz" : "not zzz");
        Desk.letter(y, 0, text);
        Desk.due("5: '" + pattern + "' told anew", Desk.pattern(y, 0, pattern), 1);
        Desk.due("5: '" + pattern + "' fits '" + text + "'", y.point(0, 0, 0), want ? 0 : NONE);
    }

    /** The causes of the points of a new letter of writer 0. */
    private static void dueCauses(ComplaintDesk x, String text, int... want) {
        int letter = Desk.letter(x, 0, text);
        Desk.due("6: points of '" + text + "'", x.look(letter, 2), want.length);
        for (int point = 0; point < want.length; point++) {
            Desk.due("6: cause of point " + point + " of '" + text + "'", x.point(letter, point, 0), want[point]);
        }
    }

    private static void eachWordIsAmongThePoints() {
        dueFit("a", "a", true);
        dueFit("a", "b", false);
        dueFit("a and b", "a", false);
        dueFit("a and b", "b", false);
        dueFit("a and b", "b a", true);
        dueFit("a and a", "a", true);
        dueFit("a and b and c", "a b", false);
        dueFit("a and b and c", "b c", false);
        dueFit("a and b and c", "a c", false);
        dueFit("a and b and c", "c x b x a", true);
        dueFit("a", "b ".repeat(59) + "a", true);
        dueFit("b", "b ".repeat(59) + "a", true);
        dueFit("c", "b ".repeat(59) + "a", false);
    }

    private static void notIsNotAmongThem() {
        dueFit("not a", "b", true);
        dueFit("not a", "a", false);
        dueFit("not a", "b a b", false);
        dueFit("not a and b", "b", true);
        dueFit("not a and b", "a b", false);
        dueFit("not a and b", "c", false);
        dueFit("a and not b", "a", true);
        dueFit("a and not b", "a b", false);
        dueFit("a and not b", "c", false);
        dueFit("not a and not b", "c", true);
        dueFit("not a and not b", "b", false);
        dueFit("a and not a", "a", false);
        dueFit("a and not a", "b", false);
        dueFit("a or not a", "a", true);
        dueFit("a or not a", "b", true);
    }

    private static void someAll() {
        dueFit("a or b or c", "a", true);
        dueFit("a or b or c", "b", true);
        dueFit("a or b or c", "c", true);
        dueFit("a or b or c", "d", false);
        dueFit("a and b or c and d", "a d", false);
        dueFit("a and b or c and d", "a b", true);
        dueFit("a and b or c and d", "c d", true);
        dueFit("a or b and c", "b", false);
        dueFit("a or b and c", "a", true);
        dueFit("b and c or a", "b", false);
        dueFit("b and c or a", "a", true);
        dueFit("not a or b", "a b", true);
        dueFit("not a or b", "a", false);
        dueFit("not a or b", "c", true);
        dueFit("a or b or c or d or e or f or g or h or i or j or k or l", "l", true);
        dueFit("a or b or c or d or e or f or g or h or i or j or k or not l", "l", false);
        dueFit("a or b or c or d or e or f or g or h or i or j or k or not l", "m", true);
        dueFit("a and b and c and d and e and f and g and h and i and j and k and l", "l k j i h g f e d c b a", true);
        dueFit("a and b and c and d and e and f and g and h and i and j and k and l", "k j i h g f e d c b a", false);
    }

    private static void wordsAreWholeWords() {
        dueFit("a", "aa", false);
        dueFit("aa", "a", false);
        dueFit("aa", "a a", false);
        dueFit("ab", "ba", false);
        dueFit("abcdefghijkl", "abcdefghijkl", true);
        dueFit("abcdefghijkl", "abcdefghijk", false);
        dueFit("abcdefghijkl", "abcdefghijklm", false);
        dueFit("not abcdefghijkl", "abcdefghijklm", true);
        dueFit("bcdefghijklm", "abcdefghijklm", false);
        dueFit("zzzzzzzzzzzz", "zzzzzzzzzzzz", true);
        dueFit("aaaaaaaaaaaa", "aaaaaaaaaaaa", true);
        dueFit("aaaaaaaaaaaa", "aaaaaaaaaaa", false);
        dueFit("ba", "ab", false);
        dueFit("b", "ab", false);
        dueFit("z", "z".repeat(400), false);
        dueFit("not z", "z".repeat(400), true);
    }

    private static void aPointAlone() {
        ComplaintDesk x = new ComplaintDesk();
        Desk.cause(x, "a and b");
        Desk.cause(x, "not a");
        dueCauses(x, "a. b. a b. b a. c. a", NONE, 1, 0, 0, 1, NONE);
    }

    private static void firstTopOne() {
        ComplaintDesk x = new ComplaintDesk();
        Desk.cause(x, "a");
        Desk.cause(x, "a and b or b");
        Desk.cause(x, "c or b");
        dueCauses(x, "a. b. c. a b c. b c. d", 0, 1, 2, 0, 1, NONE);
    }

    private static void thenBelowIt() {
        ComplaintDesk x = new ComplaintDesk();
        Desk.cause(x, "a");
        Desk.cause(x, "b");
        Desk.cause(x, 1, 0, 2, false, "c");
        Desk.cause(x, 0, 0, 2, false, "d");
        Desk.cause(x, 0, 0, 2, false, "c or d");
        Desk.cause(x, 3, 0, 2, false, "e");
        // the first top one stays, though another has below it what fits
        dueCauses(x, "a b. a b c. b c. a d. a d e. a c e", 0, 4, 2, 3, 5, 4);
        // what is below is not asked, where the one above it does not fit
        dueCauses(x, "c. d. e. b d. b e. a e", NONE, NONE, NONE, 1, 1, 0);
    }

    private static void asLongAsOneDoes() {
        ComplaintDesk x = new ComplaintDesk();
        String letters = "abcdefghijkl";
        for (int n = 0; n < 12; n++) {
            Desk.cause(x, n - 1, 0, 2, false, letters.substring(n, n + 1));
        }
        dueCauses(x, "a b c d e f g h i j k l. a b c d e f g h i j k. a b. a. a c. b", 11, 10, 1, 0, 0, NONE);
        ComplaintDesk y = new ComplaintDesk();
        for (int n = 0; n < 12; n++) {
            Desk.cause(y, letters.substring(n, n + 1));
        }
        dueCauses(y, "l. a l. k l. m. b c", 11, 0, 10, NONE, 1);
    }

    private static void openWithoutTopOne() {
        ComplaintDesk x = new ComplaintDesk();
        dueCauses(x, "a. b", NONE, NONE);
        Desk.cause(x, "a");
        dueCauses(x, "a. b", 0, NONE);
        Desk.due("11: an open one has no due", x.point(1, 1, 1), NONE);
        Desk.due("11: an open one has no matter", x.point(1, 1, 3), 0);
        Desk.due("18: open ones", x.count(5), 3);
    }

    private static void causeSortsNothing() {
        ComplaintDesk x = new ComplaintDesk();
        Desk.cause(x, "a");
        Desk.letter(x, 0, "a. a b. b");
        Desk.cause(x, 0, 0, 2, false, "b");
        Desk.cause(x, "b");
        Desk.due("4: no point is sorted anew", x.point(0, 0, 0), 0);
        Desk.due("4: no point is sorted anew", x.point(0, 1, 0), 0);
        Desk.due("4: no point is sorted anew", x.point(0, 2, 0), NONE);
        dueCauses(x, "a. a b. b", 0, 1, 2);
    }

    private static void dueOfZeroAndSixtyDays() {
        int[] daysOfCause = {0, 1, 59, 60};
        int[] comings = {0, 1, 60};
        for (int days : daysOfCause) {
            for (int coming : comings) {
                ComplaintDesk x = new ComplaintDesk();
                Desk.cause(x, NONE, 0, days, false, "a");
                x.days(coming);
                Desk.letter(x, 0, "a. b");
                Desk.due("11: due", x.point(0, 0, 1), coming + days);
                Desk.due("11: no due of an open one", x.point(0, 1, 1), NONE);
            }
        }
        ComplaintDesk x = new ComplaintDesk();
        Desk.cause(x, NONE, 0, 60, false, "a");
        for (int n = 0; n < 7; n++) {
            x.days(60);
        }
        Desk.letter(x, 0, "a");
        Desk.due("11: due behind the last day", x.point(0, 0, 1), 460);
    }

    private static void dueStaysButSorted() {
        ComplaintDesk x = new ComplaintDesk();
        x.hours(0, 0);
        Desk.cause(x, NONE, 0, 7, false, "a");
        Desk.cause(x, NONE, 0, 9, false, "b");
        Desk.letter(x, 0, "a. b");
        x.days(20);
        Desk.due("11: days leave it", x.point(0, 0, 1), 7);
        x.answer(0, 0);
        Desk.due("11: an answer leaves it", x.point(0, 0, 1), 7);
        Desk.due("5: the answered one is not asked", Desk.pattern(x, 0, "b"), 1);
        Desk.due("11: answered, it stays", x.point(0, 0, 1), 7);
        Desk.due("11: sorted anew", x.point(0, 1, 1), 7);
    }

    private static void matterOfWriterAndCause() {
        ComplaintDesk x = new ComplaintDesk();
        Desk.cause(x, "a");
        Desk.cause(x, 0, 0, 2, false, "b");
        Desk.letter(x, 3, "a. c");
        Desk.due("11: one of one", x.point(0, 0, 3), 1);
        Desk.due("11: none of an open one", x.point(0, 1, 3), 0);
        Desk.letter(x, 3, "a. a. a b. c");
        Desk.letter(x, 4, "a. c");
        Desk.due("11: of the same letter and of others", x.point(1, 0, 3), 3);
        Desk.due("11: told of each of them", x.point(0, 0, 3), 3);
        Desk.due("11: the one below is another cause", x.point(1, 2, 3), 1);
        Desk.due("11: another writer", x.point(2, 0, 3), 1);
        Desk.due("11: open ones are no matter", x.point(1, 3, 3), 0);
        x.answer(1, 0);
        x.days(1);
        Desk.due("11: answered ones are of it", x.point(0, 0, 3), 3);
        Desk.letter(x, 49, "a");
        Desk.letter(x, 0, "a");
        Desk.due("11: writer 49", x.point(3, 0, 3), 1);
        Desk.due("11: writer 0", x.point(4, 0, 3), 1);
    }

    private static void matterAsSortedNow() {
        ComplaintDesk x = new ComplaintDesk();
        Desk.cause(x, "a");
        Desk.cause(x, "b");
        Desk.letter(x, 0, "a. b. a");
        x.answer(0, 2);
        Desk.pattern(x, 0, "z");
        Desk.due("11: open now", x.point(0, 0, 3), 0);
        Desk.due("11: the answered one alone", x.point(0, 2, 3), 1);
        Desk.pattern(x, 1, "a or b");
        Desk.due("11: in the other cause now", x.point(0, 1, 3), 2);
        Desk.due("11: the answered one alone", x.point(0, 2, 3), 1);
    }

    private static void sortedAnewNotAnswered() {
        ComplaintDesk x = new ComplaintDesk();
        Desk.cause(x, NONE, 0, 9, false, "a");
        Desk.letter(x, 0, "a. a. b. b. a");
        x.answer(0, 0);
        x.answer(0, 2);
        Desk.due("5: three are not answered", Desk.pattern(x, 0, "b"), 3);
        int[] want = {0, NONE, NONE, 0, NONE};
        int[] due = {9, NONE, NONE, 9, NONE};
        for (int point = 0; point < want.length; point++) {
            Desk.due("5: cause of " + point, x.point(0, point, 0), want[point]);
            Desk.due("5: due of " + point, x.point(0, point, 1), due[point]);
        }
        x.days(1);
        Desk.due("5: what a day answered is not sorted", Desk.pattern(x, 0, "a"), 2);
        Desk.due("5: answered by the day", x.point(0, 3, 0), 0);
    }

    private static void sortedAnewHowMany() {
        ComplaintDesk x = new ComplaintDesk();
        Desk.cause(x, "z");
        Desk.due("5: without letters none", Desk.pattern(x, 0, "a"), 0);
        Desk.letter(x, 0, "a. b. c");
        Desk.due("5: the same anew", Desk.pattern(x, 0, "a"), 0);
        Desk.due("5: another of the same sense", Desk.pattern(x, 0, "a or a and b"), 0);
        Desk.due("5: one from open", Desk.pattern(x, 0, "a or b"), 1);
        Desk.due("5: one to open", Desk.pattern(x, 0, "a"), 1);
        Desk.due("5: one there, one back", Desk.pattern(x, 0, "b"), 2);
        Desk.due("5: from open all others", Desk.pattern(x, 0, "not z"), 2);
        Desk.due("5: all to open", Desk.pattern(x, 0, "z"), 3);
        Desk.cause(x, "a or b or c");
        Desk.due("5: by a pattern that still fits none", Desk.pattern(x, 0, "y"), 3);
        Desk.due("5: from one cause to another", Desk.pattern(x, 0, "c"), 1);
        ComplaintDesk y = new ComplaintDesk();
        for (int n = 0; n < 80; n++) {
            Desk.shortLetter(y, n % 50);
        }
        Desk.cause(y, "b");
        Desk.due("5: of all eighty letters", Desk.pattern(y, 0, "a"), 80);
        Desk.due("5: the first", y.point(0, 0, 0), 0);
        Desk.due("5: the last", y.point(79, 0, 0), 0);
    }

    private static void sortedAnewIsDueFromTheComing() {
        ComplaintDesk x = new ComplaintDesk();
        x.hours(0, 0);
        Desk.cause(x, NONE, 0, 60, false, "a");
        Desk.cause(x, NONE, 0, 0, false, "b");
        x.days(3);
        Desk.letter(x, 0, "a. a b. c");
        x.days(30);
        Desk.pattern(x, 0, "a and not b");
        Desk.due("5: due long since", x.point(0, 1, 1), 3);
        Desk.due("5: the same cause, the same due", x.point(0, 0, 1), 63);
        Desk.due("12: the coming stays", x.look(0, 1), 3);
        Desk.pattern(x, 1, "c");
        Desk.due("5: to open: no due", x.point(0, 1, 1), NONE);
        Desk.due("5: from open", x.point(0, 2, 1), 3);
        Desk.pattern(x, 0, "a");
        Desk.due("5: back again", x.point(0, 1, 1), 63);
    }

    private static void sortedAnewByAllCauses() {
        ComplaintDesk x = new ComplaintDesk();
        Desk.cause(x, "a");
        Desk.letter(x, 0, "a. a b. b. a b c");
        Desk.cause(x, 0, 1, 5, false, "b");
        Desk.cause(x, 1, 2, 6, false, "c");
        Desk.cause(x, NONE, 3, 7, false, "b");
        Desk.due("5: all that are not where they belong now", Desk.pattern(x, 0, "a"), 3);
        int[] want = {0, 1, 3, 2};
        int[] due = {2, 5, 7, 6};
        for (int point = 0; point < want.length; point++) {
            Desk.due("5: cause of " + point, x.point(0, point, 0), want[point]);
            Desk.due("5: due of " + point, x.point(0, point, 1), due[point]);
        }
        Desk.due("5: the one in between", Desk.pattern(x, 1, "z"), 2);
        Desk.due("5: the one below is not asked", x.point(0, 3, 0), 0);
        Desk.due("5: a last one", Desk.pattern(x, 2, "z"), 0);
    }

    private static void sortedAnewGoesToAnotherDesk() {
        ComplaintDesk x = new ComplaintDesk();
        Desk.cause(x, NONE, 0, 9, false, "a");
        Desk.cause(x, NONE, 3, 9, true, "a");
        Desk.letter(x, 0, "a. a");
        Desk.due("14: at the first desk", x.waits(0), 2);
        Desk.pattern(x, 0, "b");
        Desk.due("14: not there any more", x.waits(0), 0);
        Desk.due("14: at the other desk", x.waits(3), 2);
        x.hours(0, 20);
        x.hours(3, 1);
        x.days(1);
        Desk.due("9: the other desk answers", x.waits(3), 1);
    }

    private static void wrongPatternLeavesAll() {
        String[] wrong = {"c or", "c C", "", "not", "abcdefghijklm", "c c"};
        int[] faults = {4, 2, 0, 3, 0, 2};
        for (int n = 0; n < wrong.length; n++) {
            String text = wrong[n];
            ComplaintDesk x = new ComplaintDesk();
            Desk.cause(x, NONE, 0, 9, false, "a");
            Desk.cause(x, 0, 1, 3, true, "b");
            Desk.letter(x, 0, "a. a b. c");
            Desk.refused("5: pattern by '" + text + "'", x, () -> Desk.pattern(x, 0, text), Desk.ARGUMENT, 0, faults[n]);
            dueCauses(x, "a. a b. c. b", 0, 1, NONE, NONE);
            Desk.due("5: the patterns stay", Desk.pattern(x, 0, "a"), 0);
        }
    }
}
