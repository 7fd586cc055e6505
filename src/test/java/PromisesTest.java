/** The promises of the document by their numbers: ordinary inputs, named edges, wrong inputs. */
public final class PromisesTest {
    private static final int NONE = ComplaintDesk.NONE;
    private static final int MIN = Integer.MIN_VALUE;
    private static final int MAX = Integer.MAX_VALUE;

    public static void main(String[] args) {
        newObject();
        feed();
        end();
        cause();
        causeThrows();
        patternTexts();
        fitting();
        pattern();
        patternThrows();
        letterTexts();
        letterThrows();
        fault();
        hours();
        days();
        dayOrder();
        answer();
        point();
        look();
        theAnswer();
        late();
        waits();
        template();
        counts();
        wave();
        count();
        Desk.close();
    }

    private static void newObject() {
        ComplaintDesk x = new ComplaintDesk();
        Desk.due("1: NONE", ComplaintDesk.NONE, -1);
        for (int what = 0; what <= 8; what++) {
            Desk.due("1: count(" + what + ")", x.count(what), 0);
        }
        Desk.due("1: fault()", x.fault(), NONE);
        Desk.due("1: end(1)", x.end(1), false);
        for (int desk = 0; desk < 4; desk++) {
            Desk.due("1: waits", x.waits(desk), 0);
            Desk.due("1: late", x.late(desk), 0);
        }
        Desk.dueThrow("1: look(0, 0)", () -> x.look(0, 0), Desk.INDEX);
        Desk.dueThrow("1: wave(0)", () -> x.wave(0), Desk.INDEX);
        ComplaintDesk other = new ComplaintDesk();
        Desk.cause(other, "a");
        Desk.due("1: objects share nothing", x.count(1), 0);
    }

    private static void feed() {
        ComplaintDesk x = new ComplaintDesk();
        Desk.due("2: feed", x.feed(0x61626364, 0x65666768, 0x20616e64, 0x206d6e6f, 0x70717200), 20);
        Desk.due("2: end", x.end(19), true);
        Desk.due("2: the highest byte comes first", x.cause(NONE, 0, 0, false), 0);
        Desk.letter(x, 0, "mnopqr abcdefgh");
        Desk.due("2: the words stand in order", x.point(0, 0, 0), 0);
        for (int n = 1; n <= 20; n++) {
            Desk.due("2: feed", x.feed(0x61616161, 0, 0, 0, 0x61616161), 20 * n);
        }
        Desk.due("2: feed above 400", x.feed(1, 1, 1, 1, 1), NONE);
        Desk.due("2: none came", x.end(401), false);
        Desk.due("2: all stayed", x.end(400), true);
        x.end(381);
        Desk.due("2: 381 and 20 are above 400", x.feed(0, 0, 0, 0, 0), NONE);
        x.end(380);
        Desk.due("2: 380 and 20 are not", x.feed(0, 0, 0, 0, 0), 400);
        x.end(7);
        Desk.due("2: behind what is there", x.feed(-1, MIN, MAX, 0, 1), 27);
        x.end(4);
        x.feed(0xE1616161, 0, 0, 0, 0);
        Desk.dueThrow("2: a byte above 127 is no letter", () -> x.letter(0), Desk.ARGUMENT);
        Desk.due("2: where it stands", x.fault(), 4);
    }

    private static void end() {
        ComplaintDesk x = new ComplaintDesk();
        Desk.due("3: end(0) of none", x.end(0), true);
        Desk.due("3: end(-1)", x.end(-1), false);
        Desk.due("3: end(MIN)", x.end(MIN), false);
        x.feed(0x61206220, 0x63206420, 0, 0, 0);
        Desk.due("3: end(21)", x.end(21), false);
        Desk.due("3: end(MAX)", x.end(MAX), false);
        Desk.due("3: end(20)", x.end(20), true);
        Desk.due("3: end(3)", x.end(3), true);
        Desk.due("3: end(4)", x.end(4), false);
        Desk.due("3: end(-1)", x.end(-1), false);
        x.letter(0);
        Desk.due("3: the first bytes stay", x.point(0, 0, 4), 2);
        Desk.due("3: the tape is used up", x.end(1), false);
    }

    private static void cause() {
        ComplaintDesk x = new ComplaintDesk();
        Desk.letter(x, 0, "a");
        Desk.due("4: number", Desk.cause(x, NONE, 3, 60, true, "a"), 0);
        Desk.due("4: no point is sorted anew", x.point(0, 0, 0), NONE);
        Desk.due("4: used up", x.end(1), false);
        Desk.due("4: number", Desk.cause(x, 0, 0, 0, false, "b"), 1);
        Desk.due("4: count", x.count(1), 2);
        Desk.letter(x, 0, "a. a b");
        Desk.due("4: due", x.point(1, 0, 1), 60);
        Desk.due("4: desk", x.waits(3), 1);
        Desk.due("4: below", x.point(1, 1, 0), 1);
        Desk.due("4: due today", x.point(1, 1, 1), 0);
        for (int n = 2; n < 12; n++) {
            Desk.due("4: number", Desk.cause(x, n - 1, 1, n, false, "c or not c"), n);
        }
        Desk.letter(x, 0, "a b");
        Desk.due("4: twelve levels", x.point(2, 0, 0), 11);
        Desk.due("4: due by the last", x.point(2, 0, 1), 11);
    }

    private static void causeThrows() {
        ComplaintDesk x = new ComplaintDesk();
        Desk.cause(x, "a");
        int[] noCauses = {1, -2, MIN, MAX};
        for (int above : noCauses) {
            Desk.text(x, "A");
            Desk.dueThrow("4: above", () -> x.cause(above, 9, 99, true), Desk.INDEX);
            Desk.due("4: used up all the same", x.end(1), false);
            Desk.due("4: no text was read", x.fault(), NONE);
        }
        int[] noDesks = {-1, 4, MIN, MAX};
        for (int desk : noDesks) {
            Desk.text(x, "A");
            Desk.dueThrow("4: desk ahead of days", () -> x.cause(0, desk, 99, true), Desk.INDEX);
            Desk.due("4: used up all the same", x.end(1), false);
        }
        int[] noDays = {-1, 61, MIN, MAX};
        for (int days : noDays) {
            Desk.text(x, "A");
            Desk.dueThrow("4: days ahead of the text", () -> x.cause(0, 0, days, true), Desk.ARGUMENT);
            Desk.due("4: no text was read", x.fault(), NONE);
            Desk.due("4: used up all the same", x.end(1), false);
        }
        Desk.dueThrow("4: the text", () -> Desk.cause(x, "a and"), Desk.ARGUMENT);
        Desk.due("4: a text was read", x.fault(), 5);
        Desk.due("4: no cause came", x.count(1), 1);
        for (int n = 1; n < 12; n++) {
            Desk.cause(x, "a");
        }
        String before = Desk.state(x);
        Desk.dueThrow("4: the text ahead of the twelve", () -> Desk.cause(x, "a b"), Desk.ARGUMENT);
        Desk.due("4: a text was read", x.fault(), 2);
        Desk.dueThrow("4: twelve", () -> Desk.cause(x, "a"), Desk.UNSUPPORTED);
        Desk.due("4: a good text was read", x.fault(), NONE);
        Desk.due("4: used up all the same", x.end(1), false);
        Desk.dueThrow("4: above 11", () -> x.cause(12, 0, 0, false), Desk.INDEX);
        Desk.due("4: nothing changed", Desk.state(x), before);
    }

    private static void patternText(String text, int wrongAt) {
        ComplaintDesk x = new ComplaintDesk();
        Desk.dueThrow("4: cause by '" + text + "'", () -> Desk.cause(x, text),
                wrongAt == NONE ? Desk.NOTHING : Desk.ARGUMENT);
        Desk.due("7: fault of '" + text + "'", x.fault(), wrongAt);
        Desk.due("4: causes by '" + text + "'", x.count(1), wrongAt == NONE ? 1 : 0);
    }

    private static void patternTexts() {
        patternText("a", NONE);
        patternText("  a  ", NONE);
        patternText("not a", NONE);
        patternText("  not   a   and   b or not c ", NONE);
        patternText("abcdefghijkl", NONE);
        patternText("nota", NONE);
        patternText("android or orb or notes", NONE);
        patternText("", 0);
        patternText("   ", 3);
        patternText("a and ", 6);
        patternText("a or", 4);
        patternText("not ", 4);
        patternText("a and not", 9);
        patternText("and", 0);
        patternText("or a", 0);
        patternText(" not not a", 5);
        patternText("not or", 4);
        patternText("a and and b", 6);
        patternText("a or or b", 5);
        patternText("a not b", 2);
        patternText("a b", 2);
        patternText("a.", 1);
        patternText("a and b.", 7);
        patternText("A", 0);
        patternText("a and 1", 6);
        patternText("a1", 1);
        patternText("a\tor b", 1);
        patternText("`", 0);
        patternText("{", 0);
        patternText("a or \u00e9", 5);
        patternText("a or abcdefghijklm", 5);
        patternText("a abcdefghijklm", 2);
        patternText("not abcdefghijklm", 4);
        patternText("abcdefghijkl1", 12);
        String twelve = "a and b and c and d and e and f or g or h or i or j or k or not l";
        patternText(twelve, NONE);
        patternText(twelve + " or m", twelve.length() + 4);
        patternText(twelve + " or not m", twelve.length() + 8);
        patternText(twelve + " or not", twelve.length() + 7);
        patternText(twelve + " or or", twelve.length() + 4);
        patternText(twelve + " and", twelve.length() + 4);
        patternText(twelve + " b", twelve.length() + 1);
    }

    private static void fits(String pattern, String text, boolean want) {
        ComplaintDesk x = new ComplaintDesk();
        Desk.cause(x, pattern);
        Desk.letter(x, 0, text);
        Desk.due("6: '" + pattern + "' fits '" + text + "'", x.point(0, 0, 0) == 0, want);
    }

    private static void fitting() {
        fits("a", "b a", true);
        fits("a", "ab ba aa", false);
        fits("a and b", "b c a", true);
        fits("a and b", "b c", false);
        fits("a and b or c", "c", true);
        fits("a and b or c", "b", false);
        fits("a or b and c", "b", false);
        fits("a or b and c", "a", true);
        fits("a or b and c", "c b", true);
        fits("not a", "b", true);
        fits("not a", "b a", false);
        fits("not a and not b", "c", true);
        fits("not a and not b", "b", false);
        fits("a and not b or b and not a", "a b", false);
        fits("a and not b or b and not a", "b", true);
        fits("a and not a", "a", false);
        fits("a or not a", "z", true);
        fits("b or a and not b", "a b", true);
        fits("abcdefghijkl", "abcdefghijkl", true);
        fits("abcdefghijkl", "abcdefghijklm", false);
        fits("not abcdefghijkl", "abcdefghijklm", true);
        fits("andy", "and or not andy", true);
        fits("zzzzzzzzzzzz", "zzzzzzzzzzzz", true);
        fits("z", "zzzzzzzzzzzzzzzzzzzzzzzzzzz", false);
        // of points the pattern asks one alone
        fits("a and b", "a . b", false);
        String twelve = "q or q or q or q or q or q or q or q or q or q or q";
        fits(twelve + " or not a", "b", true);
        fits(twelve + " or not a", "a", false);
        fits(twelve + " and not a", "q a", true);
    }

    private static void pattern() {
        ComplaintDesk x = new ComplaintDesk();
        Desk.cause(x, NONE, 0, 10, false, "a");
        Desk.cause(x, 0, 1, 20, false, "b");
        Desk.cause(x, NONE, 2, 30, false, "c");
        Desk.letter(x, 0, "a. a b. c. d");
        x.days(1);
        Desk.letter(x, 0, "a. a b. c. d");
        x.answer(1, 1);
        x.answer(1, 3);
        String before = Desk.state(x);
        Desk.due("5: the same anew", Desk.pattern(x, 0, "a"), 0);
        Desk.due("5: the due days stay", Desk.state(x), before);
        Desk.due("5: used up", x.end(1), false);
        Desk.due("5: one to open, one from open", Desk.pattern(x, 0, "d"), 2);
        Desk.due("5: an answered open one stays", x.point(1, 3, 0), NONE);
        Desk.due("5: an answered one stays", x.point(1, 1, 0), 1);
        Desk.due("5: its due stays", x.point(1, 1, 1), 21);
        Desk.due("5: days had answered it", x.point(0, 0, 0), 0);

        ComplaintDesk y = new ComplaintDesk();
        Desk.cause(y, NONE, 0, 10, false, "a");
        Desk.letter(y, 0, "a. a b. c. d");
        y.hours(0, 0);
        y.hours(1, 0);
        y.hours(2, 0);
        y.days(7);
        Desk.cause(y, 0, 1, 20, false, "b");
        Desk.cause(y, NONE, 2, 30, false, "c");
        Desk.due("5: new causes count then", Desk.pattern(y, 0, "a"), 2);
        Desk.due("5: below", y.point(0, 1, 0), 1);
        Desk.due("5: due from the coming on", y.point(0, 1, 1), 20);
        Desk.due("5: from open", y.point(0, 2, 1), 30);
        Desk.due("5: its due stays", y.point(0, 0, 1), 10);
        Desk.due("5: to open", Desk.pattern(y, 0, "z"), 2);
        Desk.due("5: open has no due", y.point(0, 0, 1), NONE);
        Desk.due("5: the one below is not asked", y.point(0, 1, 0), NONE);
        Desk.due("5: all", Desk.pattern(y, 0, "not z"), 4);
        Desk.due("5: the first top one", y.point(0, 2, 0), 0);
        Desk.due("5: desk", y.waits(0), 3);
        Desk.due("5: none waits any more", y.waits(2), 0);
    }

    private static void patternThrows() {
        ComplaintDesk x = new ComplaintDesk();
        Desk.cause(x, "a");
        Desk.letter(x, 0, "a. b");
        String before = Desk.state(x);
        int[] none = {-1, 1, MIN, MAX};
        for (int cause : none) {
            Desk.dueThrow("5: no cause", () -> Desk.pattern(x, cause, "B"), Desk.INDEX);
            Desk.due("5: used up", x.end(1), false);
            Desk.due("5: no text was read", x.fault(), NONE);
        }
        Desk.dueThrow("5: wrong text", () -> Desk.pattern(x, 0, "b or B"), Desk.ARGUMENT);
        Desk.due("5: used up", x.end(1), false);
        Desk.due("5: fault", x.fault(), 5);
        Desk.due("5: all stays", Desk.state(x), before);
        Desk.letter(x, 0, "a. b");
        Desk.due("5: the pattern stays", x.point(1, 0, 0), 0);
        Desk.due("5: the pattern stays", x.point(1, 1, 0), NONE);
    }

    private static void letterText(String text, int wrongAt) {
        ComplaintDesk x = new ComplaintDesk();
        Desk.dueThrow("6: letter '" + text + "'", () -> Desk.letter(x, 0, text),
                wrongAt == NONE ? Desk.NOTHING : Desk.ARGUMENT);
        Desk.due("7: fault of '" + text + "'", x.fault(), wrongAt);
        Desk.due("6: letters by '" + text + "'", x.count(2), wrongAt == NONE ? 1 : 0);
        Desk.due("6: used up", x.end(1), false);
    }

    private static void letterTexts() {
        letterText("a", NONE);
        letterText("  a  b  .  c  .  ", NONE);
        letterText("and.or.not", NONE);
        letterText("a.", NONE);
        letterText("a.b.c.d.e.f", NONE);
        letterText("a.b.c.d.e.f .", NONE);
        letterText("abcdefghijklmnopqrstuvwxyz", NONE);
        letterText("", 0);
        letterText("    ", 4);
        letterText(".", 0);
        letterText("  .a", 2);
        letterText("a..", 2);
        letterText("a. .b", 3);
        letterText("a.b.c.d.e.f..", 12);
        letterText("a.b.c.d.e.f. g", 13);
        letterText("a.b.c.d.e.f.1", 12);
        letterText("a,b", 1);
        letterText("aB", 1);
        letterText("a b 7", 4);
        letterText("a\n", 1);
        letterText("\u00ff", 0);
        letterText("a.\u0000", 2);
        String sixty = "a b c d e f g h i j ".repeat(6).trim();
        letterText(sixty, NONE);
        letterText(sixty + ".", NONE);
        letterText(sixty + " a", sixty.length() + 1);
        letterText(sixty + ".a", sixty.length() + 1);
        letterText("a. b. c. d. e. " + "f ".repeat(55) + ".", NONE);
        letterText("a. b. c. d. e. " + "f ".repeat(56), 15 + 110);
        letterText("a".repeat(400), NONE);
        letterText("a ".repeat(59) + "a".repeat(282), NONE);
        ComplaintDesk x = new ComplaintDesk();
        Desk.letter(x, 9, " one two.three   four five .six.");
        Desk.due("6: points", x.look(0, 2), 3);
        Desk.due("6: words", x.point(0, 0, 4), 2);
        Desk.due("6: words", x.point(0, 1, 4), 3);
        Desk.due("6: words", x.point(0, 2, 4), 1);
    }

    private static void letterThrows() {
        ComplaintDesk x = new ComplaintDesk();
        Desk.cause(x, "a");
        int[] none = {-1, 50, MIN, MAX};
        for (int writer : none) {
            Desk.dueThrow("6: no writer", () -> Desk.letter(x, writer, "B"), Desk.ARGUMENT);
            Desk.due("6: no text was read", x.fault(), NONE);
            Desk.due("6: used up", x.end(1), false);
        }
        for (int n = 0; n < 80; n++) {
            Desk.due("6: number", Desk.letter(x, n % 50, n % 2 == 0 ? "a" : "b"), n);
        }
        String before = Desk.state(x);
        Desk.dueThrow("6: writer ahead of the text", () -> Desk.letter(x, 50, "B"), Desk.ARGUMENT);
        Desk.due("6: no text was read", x.fault(), NONE);
        Desk.dueThrow("6: the text ahead of the eighty", () -> Desk.letter(x, 0, "a B"), Desk.ARGUMENT);
        Desk.due("6: fault", x.fault(), 2);
        Desk.dueThrow("6: eighty", () -> Desk.letter(x, 0, "a"), Desk.UNSUPPORTED);
        Desk.due("6: a good text was read", x.fault(), NONE);
        Desk.due("6: used up", x.end(1), false);
        Desk.due("6: nothing changed", Desk.state(x), before);
    }

    private static void fault() {
        ComplaintDesk x = new ComplaintDesk();
        Desk.dueThrow("7: a letter", () -> Desk.letter(x, 0, "a.."), Desk.ARGUMENT);
        Desk.due("7: fault", x.fault(), 2);
        x.feed(0, 0, 0, 0, 0);
        x.end(0);
        x.days(1);
        Desk.dueThrow("7: nothing is read", () -> x.letter(50), Desk.ARGUMENT);
        Desk.due("7: the latest stays", x.fault(), 2);
        Desk.cause(x, "a");
        Desk.due("7: a good one", x.fault(), NONE);
        Desk.dueThrow("7: a pattern", () -> Desk.pattern(x, 0, "a b"), Desk.ARGUMENT);
        Desk.due("7: fault", x.fault(), 2);
        Desk.pattern(x, 0, "b");
        Desk.due("7: a good one", x.fault(), NONE);
        Desk.dueThrow("7: an empty tape", () -> x.letter(0), Desk.ARGUMENT);
        Desk.due("7: fault", x.fault(), 0);
        Desk.letter(x, 0, "a");
        Desk.due("7: a good one", x.fault(), NONE);
    }

    private static void hours() {
        ComplaintDesk x = new ComplaintDesk();
        for (int desk = 0; desk < 4; desk++) {
            Desk.cause(x, NONE, desk, 60, false, "abcd".substring(desk, desk + 1));
        }
        for (int n = 0; n < 9; n++) {
            Desk.letter(x, 0, "a.b.c.d");
        }
        x.days(1);
        for (int desk = 0; desk < 4; desk++) {
            Desk.due("8: five at first", x.waits(desk), 4);
        }
        x.hours(0, 0);
        x.hours(1, 1);
        x.hours(3, 20);
        x.days(1);
        Desk.due("8: none a day", x.waits(0), 4);
        Desk.due("8: one a day", x.waits(1), 3);
        Desk.due("8: five a day", x.waits(2), 0);
        Desk.due("8: twenty a day", x.waits(3), 0);
        int[] noDesks = {-1, 4, MIN, MAX};
        for (int desk : noDesks) {
            Desk.dueThrow("8: desk ahead of hours", () -> x.hours(desk, 99), Desk.INDEX);
        }
        int[] noHours = {-1, 21, MIN, MAX};
        for (int n : noHours) {
            Desk.dueThrow("8: no hours", () -> x.hours(1, n), Desk.ARGUMENT);
        }
        x.days(1);
        Desk.due("8: they stay", x.waits(1), 2);
        ComplaintDesk y = new ComplaintDesk();
        Desk.cause(y, "a");
        for (int n = 0; n < 4; n++) {
            Desk.letter(y, 0, "a.a.a.a.a.a");
        }
        y.hours(0, 20);
        y.days(1);
        Desk.due("8: twenty are twenty", y.waits(0), 4);
    }

    private static void days() {
        ComplaintDesk x = new ComplaintDesk();
        Desk.due("9: none", x.days(0), 0);
        Desk.due("9: one", x.days(1), 1);
        int[] none = {-1, 61, MIN, MAX};
        for (int n : none) {
            Desk.dueThrow("9: no days", () -> x.days(n), Desk.ARGUMENT);
        }
        Desk.due("9: nothing changed", x.count(0), 1);
        for (int n = 1; n <= 6; n++) {
            Desk.due("9: sixty", x.days(60), 60 * n + 1);
        }
        Desk.cause(x, NONE, 0, 60, false, "a");
        Desk.letter(x, 0, "a.b");
        Desk.due("9: due behind the last day", x.point(0, 0, 1), 421);
        Desk.due("9: as far as it goes", x.days(60), 400);
        Desk.due("9: answered on the first", x.point(0, 0, 2), 362);
        Desk.letter(x, 0, "a");
        Desk.due("9: no more", x.days(1), 400);
        Desk.due("9: nothing is answered then", x.point(1, 0, 2), NONE);
        Desk.due("9: nothing is late", x.late(0), 0);
        Desk.due("9: open ones are not answered", x.point(0, 1, 2), NONE);
    }

    private static void dayOrder() {
        ComplaintDesk x = new ComplaintDesk();
        Desk.cause(x, NONE, 0, 9, false, "slow");
        Desk.cause(x, NONE, 0, 1, false, "fast");
        Desk.cause(x, NONE, 0, 60, true, "gas");
        Desk.cause(x, NONE, 0, 50, true, "fire");
        Desk.cause(x, NONE, 1, 0, true, "other");
        x.hours(0, 1);
        x.hours(1, 0);
        Desk.letter(x, 0, "slow. fast. gas. open. fast");
        Desk.letter(x, 0, "fast. gas. fire. slow. other");
        int[][] order = {{1, 2}, {0, 2}, {1, 1}, {0, 1}, {0, 4}, {1, 0}, {0, 0}, {1, 3}};
        for (int day = 0; day < order.length; day++) {
            x.days(1);
            Desk.due("9: order, on day " + (day + 1), x.point(order[day][0], order[day][1], 2), day + 1);
        }
        x.days(1);
        Desk.due("9: another desk waits", x.point(1, 4, 2), NONE);

        ComplaintDesk y = new ComplaintDesk();
        Desk.cause(y, NONE, 0, 9, false, "a");
        Desk.cause(y, NONE, 0, 3, false, "b");
        y.hours(0, 0);
        Desk.letter(y, 0, "a");
        y.days(6);
        Desk.letter(y, 0, "a. b");
        y.hours(0, 2);
        y.days(1);
        Desk.due("9: of one due the first letter", y.point(0, 0, 2), 7);
        Desk.due("9: the later coming is the same due", y.point(1, 1, 2), 7);
        Desk.due("9: the rest waits", y.point(1, 0, 2), NONE);
        y.days(1);
        Desk.due("9: then it is its turn", y.point(1, 0, 2), 8);
    }

    private static void answer() {
        ComplaintDesk x = new ComplaintDesk();
        Desk.cause(x, "a");
        x.days(4);
        Desk.letter(x, 0, "a. b");
        Desk.due("10: open", x.answer(0, 1), true);
        Desk.due("10: with a cause", x.answer(0, 0), true);
        Desk.due("10: on this day", x.point(0, 0, 2), 4);
        x.days(1);
        Desk.due("10: again", x.answer(0, 0), false);
        Desk.due("10: the day stays", x.point(0, 0, 2), 4);
        Desk.letter(x, 0, "a");
        x.days(1);
        Desk.due("10: answered by the desk", x.answer(1, 0), false);
        Desk.due("10: the day stays", x.point(1, 0, 2), 6);
        int[][] none = {{-1, 0}, {2, 0}, {0, -1}, {0, 2}, {1, 1}, {MIN, MIN}, {MAX, MAX}, {0, MAX}, {0, MIN}};
        for (int[] at : none) {
            Desk.dueThrow("10: none", () -> x.answer(at[0], at[1]), Desk.INDEX);
        }
    }

    private static void point() {
        ComplaintDesk x = new ComplaintDesk();
        Desk.cause(x, NONE, 0, 5, false, "a");
        Desk.cause(x, 0, 0, 6, false, "b");
        x.days(3);
        Desk.letter(x, 7, "a. a b c. d d d d. a");
        Desk.letter(x, 8, "a. d");
        Desk.letter(x, 7, "e a");
        int[][] want = {{0, 8, NONE, 3, 1}, {1, 9, NONE, 1, 3}, {NONE, NONE, NONE, 0, 4}, {0, 8, NONE, 3, 1}};
        for (int p = 0; p < want.length; p++) {
            for (int what = 0; what <= 4; what++) {
                Desk.due("11: point(0, " + p + ", " + what + ")", x.point(0, p, what), want[p][what]);
            }
        }
        Desk.due("11: matter of another writer", x.point(1, 0, 3), 1);
        x.days(1);
        Desk.due("11: matter has answered ones too", x.point(2, 0, 3), 3);
        Desk.due("11: answered on", x.point(2, 0, 2), 4);
        int[] noWhat = {-1, 5, MIN, MAX};
        for (int what : noWhat) {
            Desk.dueThrow("11: no what", () -> x.point(0, 0, what), Desk.ELEMENT);
            Desk.dueThrow("11: the letter ahead of it", () -> x.point(3, 0, what), Desk.INDEX);
            Desk.dueThrow("11: the point ahead of it", () -> x.point(0, 4, what), Desk.INDEX);
        }
        Desk.dueThrow("11: letter -1", () -> x.point(-1, 0, 0), Desk.INDEX);
        Desk.dueThrow("11: point -1", () -> x.point(0, -1, 0), Desk.INDEX);
        Desk.dueThrow("11: point of another letter", () -> x.point(1, 2, 0), Desk.INDEX);
    }

    private static void look() {
        ComplaintDesk x = new ComplaintDesk();
        Desk.cause(x, "a");
        Desk.letter(x, 49, "a. b");
        x.days(2);
        Desk.letter(x, 0, "a. a. a");
        Desk.due("12: writer", x.look(0, 0), 49);
        Desk.due("12: writer", x.look(1, 0), 0);
        Desk.due("12: coming", x.look(0, 1), 0);
        Desk.due("12: coming", x.look(1, 1), 2);
        Desk.due("12: points", x.look(0, 2), 2);
        Desk.due("12: points", x.look(1, 2), 3);
        x.days(1);
        Desk.due("12: an open point is not answered", x.look(0, 3), 0);
        Desk.due("12: closed", x.look(1, 3), 1);
        x.answer(0, 1);
        Desk.due("12: closed by hand", x.look(0, 3), 1);
        int[] noWhat = {-1, 5, MIN, MAX};
        for (int what : noWhat) {
            Desk.dueThrow("12: no what", () -> x.look(0, what), Desk.ELEMENT);
            Desk.dueThrow("12: the letter ahead of it", () -> x.look(2, what), Desk.INDEX);
            Desk.dueThrow("12: the letter ahead of it", () -> x.look(-1, what), Desk.INDEX);
        }
    }

    private static void theAnswer() {
        ComplaintDesk x = new ComplaintDesk();
        for (int n = 0; n < 6; n++) {
            Desk.cause(x, "abcdef".substring(n, n + 1));
        }
        Desk.letter(x, 0, "a. b. c. d");
        Desk.letter(x, 0, "b. z");
        Desk.letter(x, 0, "f");
        Desk.letter(x, 0, "a. a");
        Desk.due("12: no templates", x.look(0, 4), NONE);
        x.template(0b0001);
        x.template(0b0010);
        x.template(0b1100);
        Desk.due("12: three", x.look(0, 4), 0b111);
        Desk.due("12: one", x.look(3, 4), 0b001);
        x.template(0b0111);
        Desk.due("12: two", x.look(0, 4), 0b1100);
        x.template(0b1011);
        Desk.due("12: of several the least bits", x.look(0, 4), 0b1100);
        x.template(0b01011);
        Desk.due("12: an equal one of higher bits", x.look(0, 4), 0b1100);
        x.template(0b11111);
        Desk.due("12: more than is asked is fine", x.look(0, 4), 0b1000000);
        Desk.due("12: of one cause the first", x.look(3, 4), 0b1);
        Desk.due("12: an open point", x.look(1, 4), NONE);
        x.answer(1, 1);
        Desk.due("12: answered it is still open", x.look(1, 4), NONE);
        Desk.due("12: no set has it", x.look(2, 4), NONE);
        x.template(0b100000);
        Desk.due("12: now one has", x.look(2, 4), 0b10000000);
        x.days(1);
        Desk.due("12: a closed letter has it too", x.look(2, 4), 0b10000000);
        ComplaintDesk y = new ComplaintDesk();
        for (int n = 0; n < 4; n++) {
            Desk.cause(y, "abcd".substring(n, n + 1));
        }
        Desk.letter(y, 0, "a. b. c. d");
        y.template(0b0011);
        y.template(0b0101);
        y.template(0b1001);
        y.template(0b1010);
        y.template(0b1100);
        Desk.due("12: the least bits, not the first template with the last", y.look(0, 4), 0b01010);
        ComplaintDesk z = new ComplaintDesk();
        for (int n = 0; n < 12; n++) {
            Desk.cause(z, "abcdefghijkl".substring(n, n + 1));
        }
        Desk.letter(z, 0, "a. c. e. g. i. l");
        for (int n = 0; n < 10; n++) {
            z.template(n == 9 ? 0b101000000000 : 1 << n);
        }
        Desk.due("12: ten templates", z.look(0, 4), 0b1101010101);
    }

    private static void late() {
        ComplaintDesk x = new ComplaintDesk();
        Desk.cause(x, NONE, 0, 0, false, "now");
        Desk.cause(x, NONE, 0, 1, false, "soon");
        Desk.cause(x, NONE, 0, 2, false, "later");
        Desk.cause(x, NONE, 0, 60, true, "threat");
        Desk.cause(x, NONE, 3, 1, false, "other");
        Desk.letter(x, 0, "now. soon. soon. later. open");
        Desk.letter(x, 0, "other");
        x.hours(0, 1);
        Desk.due("13: now and one soon", x.late(0), 2);
        x.hours(0, 2);
        Desk.due("13: two a day", x.late(0), 1);
        x.hours(0, 0);
        Desk.due("13: no hours, all", x.late(0), 4);
        x.hours(0, 20);
        Desk.due("13: many hours", x.late(0), 1);
        x.hours(0, 1);
        Desk.letter(x, 0, "threat");
        Desk.due("13: the order is free", x.late(0), 2);
        Desk.due("13: another desk", x.late(3), 0);
        Desk.due("13: an idle desk", x.late(1), 0);
        x.answer(0, 0);
        Desk.due("13: answered ones do not count", x.late(0), 1);
        x.hours(0, 0);
        x.days(1);
        x.hours(0, 20);
        Desk.due("13: due today is late on the next day", x.late(0), 2);
        int[] none = {-1, 4, MIN, MAX};
        for (int desk : none) {
            Desk.dueThrow("13: no desk", () -> x.late(desk), Desk.INDEX);
        }
        ComplaintDesk y = new ComplaintDesk();
        Desk.cause(y, NONE, 0, 60, false, "a");
        for (int n = 0; n < 11; n++) {
            Desk.letter(y, 0, "a.a.a.a.a.a");
        }
        y.hours(0, 1);
        Desk.due("13: sixty days have sixty hours", y.late(0), 6);
        y.hours(0, 0);
        Desk.due("13: with no hours all, though due in sixty days", y.late(0), 66);
    }

    private static void waits() {
        ComplaintDesk x = new ComplaintDesk();
        Desk.cause(x, NONE, 2, 0, false, "a");
        Desk.letter(x, 0, "a. a. b");
        Desk.letter(x, 0, "a");
        Desk.due("14: waits", x.waits(2), 3);
        Desk.due("14: none at another", x.waits(0), 0);
        x.answer(0, 0);
        Desk.due("14: less the answered", x.waits(2), 2);
        x.days(1);
        Desk.due("14: none behind a day", x.waits(2), 0);
        int[] none = {-1, 4, MIN, MAX};
        for (int desk : none) {
            Desk.dueThrow("14: no desk", () -> x.waits(desk), Desk.INDEX);
        }
    }

    private static void template() {
        ComplaintDesk x = new ComplaintDesk();
        Desk.dueThrow("15: no cause yet", () -> x.template(1), Desk.ARGUMENT);
        Desk.cause(x, "a");
        Desk.cause(x, "b");
        int[] wrong = {0, 4, 5, 8, -1, MIN, MAX};
        for (int bits : wrong) {
            Desk.dueThrow("15: wrong bits", () -> x.template(bits), Desk.ARGUMENT);
        }
        Desk.due("15: none came", x.count(8), 0);
        for (int n = 0; n < 10; n++) {
            Desk.due("15: number", x.template(n % 3 + 1), n);
        }
        Desk.due("15: there are ten", x.template(1), NONE);
        Desk.due("15: it does not come", x.count(8), 10);
        Desk.dueThrow("15: wrong bits of an eleventh", () -> x.template(4), Desk.ARGUMENT);
        for (int n = 2; n < 12; n++) {
            Desk.cause(x, "c");
        }
        Desk.dueThrow("15: bits of a 13th cause", () -> x.template(1 << 12), Desk.ARGUMENT);
        Desk.due("15: all twelve", x.template((1 << 12) - 1), NONE);
    }

    private static void counts() {
        ComplaintDesk x = new ComplaintDesk();
        Desk.cause(x, "a");
        Desk.cause(x, 0, 0, 2, false, "b");
        Desk.cause(x, 1, 0, 2, false, "c");
        Desk.cause(x, "d");
        Desk.letter(x, 0, "a. a b. a b c. d. z");
        x.days(1);
        Desk.letter(x, 1, "a b c");
        Desk.letter(x, 2, "a b c. a");
        int[][] want = {{3, 3}, {2, 2}, {1, 2}, {1, 0}};
        for (int cause = 0; cause < 4; cause++) {
            Desk.due("16: yesterday", x.counts(cause, 0), want[cause][0]);
            Desk.due("16: today", x.counts(cause, 1), want[cause][1]);
            int[] noDays = {-1, 2, 401, MIN, MAX};
            for (int day : noDays) {
                Desk.due("16: another day", x.counts(cause, day), 0);
            }
        }
        Desk.pattern(x, 2, "z");
        Desk.due("16: as they are sorted now", x.counts(2, 1), 0);
        Desk.due("16: answered ones stay", x.counts(2, 0), 1);
        Desk.due("16: above all the same", x.counts(0, 1), 3);
        int[] none = {-1, 4, MIN, MAX};
        for (int cause : none) {
            Desk.dueThrow("16: no cause", () -> x.counts(cause, 99), Desk.INDEX);
        }
        for (int n = 0; n < 7; n++) {
            x.days(60);
        }
        Desk.letter(x, 0, "d. d");
        Desk.due("16: on the last day", x.counts(3, 400), 2);
        Desk.due("16: no day behind it", x.counts(3, 401), 0);
    }

    private static void wave() {
        ComplaintDesk x = new ComplaintDesk();
        Desk.cause(x, "a");
        Desk.cause(x, 0, 0, 2, false, "b");
        int[] none = {-1, 2, MIN, MAX};
        for (int cause : none) {
            Desk.dueThrow("17: no cause", () -> x.wave(cause), Desk.INDEX);
        }
        x.days(18);
        Desk.letter(x, 0, "a.a.a.a.a");
        Desk.due("17: too early", x.wave(0), NONE);
        x.days(1);
        Desk.letter(x, 0, "a.a.a.a.a");
        Desk.due("17: not above what was", x.wave(0), NONE);
        Desk.letter(x, 0, "a b. a b");
        Desk.due("17: above all that was", x.wave(0), 19);
        Desk.due("17: of the one below its own", x.wave(1), 19);
        x.days(20);
        Desk.letter(x, 0, "a.a.a.a.a.a");
        Desk.due("17: the first day stays", x.wave(0), 19);

        ComplaintDesk y = new ComplaintDesk();
        Desk.cause(y, "a");
        y.days(5);
        Desk.letter(y, 0, "a.a");
        y.days(33);
        Desk.letter(y, 0, "a.a");
        Desk.due("17: one of 38 days", y.wave(0), NONE);
        y.days(1);
        Desk.letter(y, 0, "a");
        Desk.due("17: one is no wave", y.wave(0), NONE);
        Desk.letter(y, 0, "a");
        Desk.due("17: two of 39 days", y.wave(0), NONE);
        y.days(19);
        Desk.letter(y, 0, "a. a");
        Desk.due("17: three of 58 days", y.wave(0), NONE);
        y.days(21);
        Desk.letter(y, 0, "a. a");
        Desk.due("17: four of 79 days", y.wave(0), NONE);
        y.days(20);
        Desk.letter(y, 0, "a. a");
        Desk.due("17: five of 99 days", y.wave(0), NONE);
        y.days(21);
        Desk.letter(y, 0, "a. a. b");
        Desk.due("17: six of 120 days are too many", y.wave(0), NONE);
        y.days(19);
        Desk.letter(y, 0, "a. a");
        Desk.due("17: seven of 139 days: 160 is above 140", y.wave(0), NONE);
        y.days(60);
        Desk.letter(y, 0, "a. a");
        Desk.due("17: eight of 199 days: 180 is not above 200", y.wave(0), 199);
        Desk.pattern(y, 0, "b");
        Desk.due("17: an open one is sorted to the day of its coming", y.wave(0), 120);
        Desk.due("17: those of today are sorted anew", y.counts(0, 199), 0);

        ComplaintDesk w = new ComplaintDesk();
        Desk.cause(w, "a");
        Desk.letter(w, 0, "a. a");
        w.days(19);
        Desk.letter(w, 0, "a. a");
        Desk.due("17: day 0 is a day ahead too", w.wave(0), NONE);
        Desk.letter(w, 0, "a");
        Desk.due("17: three are more than two", w.wave(0), 19);

        ComplaintDesk z = new ComplaintDesk();
        Desk.cause(z, "a");
        z.days(19);
        Desk.letter(z, 0, "a");
        Desk.due("17: a single point", z.wave(0), NONE);
        z.hours(0, 0);
        for (int n = 0; n < 7; n++) {
            z.days(60);
        }
        Desk.letter(z, 0, "a. a");
        Desk.due("17: on the last day", z.wave(0), 400);
    }

    private static void count() {
        ComplaintDesk x = new ComplaintDesk();
        Desk.cause(x, NONE, 0, 1, false, "a");
        Desk.cause(x, NONE, 1, 3, false, "b");
        Desk.letter(x, 0, "a. b. z. z");
        Desk.letter(x, 0, "a");
        x.template(3);
        int[] first = {0, 2, 2, 0, 5, 2, 0, 0, 1};
        for (int what = 0; what <= 8; what++) {
            Desk.due("18: count(" + what + ")", x.count(what), first[what]);
        }
        x.hours(0, 0);
        x.answer(0, 2);
        x.days(2);
        x.answer(0, 3);
        x.hours(0, 1);
        x.days(1);
        int[] then = {3, 2, 2, 1, 5, 0, 4, 1, 1};
        for (int what = 0; what <= 8; what++) {
            Desk.due("18: count(" + what + ")", x.count(what), then[what]);
        }
        x.answer(1, 0);
        Desk.due("18: by hand behind its due", x.count(7), 2);
        Desk.due("18: closed", x.count(3), 2);
        int[] none = {-1, 9, MIN, MAX};
        for (int what : none) {
            Desk.due("18: another what", x.count(what), NONE);
        }
        ComplaintDesk y = new ComplaintDesk();
        Desk.cause(y, NONE, 0, 0, false, "a");
        Desk.letter(y, 0, "a. a");
        y.answer(0, 0);
        Desk.due("18: on its due is not behind it", y.count(7), 0);
        y.days(1);
        Desk.due("18: a day behind is", y.count(7), 1);
    }
}
