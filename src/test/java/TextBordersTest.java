import java.util.Arrays;

/** The borders of the texts: the TAPE, what a PATTERN and a LETTER may be, and the first wrong byte. */
public final class TextBordersTest {
    private static final int NONE = ComplaintDesk.NONE;
    private static final String TWELVE = "a or b or c or d or e or f or g or h or i or j or k or l";
    private static final String SIXTY = "a b c d e f g h i j ".repeat(6).trim();

    public static void main(String[] args) {
        feedHasTwentyBytes();
        feedTakesTheHighestByteFirst();
        feedStopsAtFourHundred();
        endKeepsTheFirstBytes();
        endRefuses();
        patternOfEachByte();
        patternBlanks();
        patternWordLengths();
        patternWordsAreNoneOfThree();
        patternTwelveWords();
        patternThingsThatCannotStand();
        patternMoreMustCome();
        letterOfEachByte();
        letterBlanks();
        letterWordLengths();
        letterWordsMayBeAnyWord();
        letterSixPoints();
        letterLastStop();
        letterPointsHaveWords();
        letterSixtyWords();
        letterEmpty();
        fullTapes();
        faultOfTheLatestText();
        Desk.close();
    }

    /** A text is read as a pattern by cause and by pattern, and both tell the same. */
    private static void dueOfPattern(String text, int wrongAt) {
        ComplaintDesk x = new ComplaintDesk();
        String want = wrongAt == NONE ? Desk.NOTHING : Desk.ARGUMENT;
        Desk.dueThrow("4: cause by '" + text + "'", () -> Desk.cause(x, text), want);
        Desk.due("7: fault of '" + text + "'", x.fault(), wrongAt);
        Desk.due("4: causes by '" + text + "'", x.count(1), wrongAt == NONE ? 1 : 0);
        Desk.dueTape("4: used up", x, 0);
        ComplaintDesk y = new ComplaintDesk();
        Desk.cause(y, "zzz");
        Desk.dueThrow("5: pattern by '" + text + "'", () -> Desk.pattern(y, 0, text), want);
        Desk.due("7: fault of '" + text + "'", y.fault(), wrongAt);
        Desk.dueTape("5: used up", y, 0);
    }

    private static void dueOfLetter(String text, int wrongAt) {
        ComplaintDesk x = new ComplaintDesk();
        Desk.dueThrow("6: letter of '" + text + "'", () -> Desk.letter(x, 0, text),
                wrongAt == NONE ? Desk.NOTHING : Desk.ARGUMENT);
        Desk.due("7: fault of '" + text + "'", x.fault(), wrongAt);
        Desk.due("6: letters by '" + text + "'", x.count(2), wrongAt == NONE ? 1 : 0);
        Desk.dueTape("6: used up", x, 0);
    }

    /** The numbers of words of the points of a good letter. */
    private static void dueWords(String text, int... want) {
        ComplaintDesk x = new ComplaintDesk();
        Desk.letter(x, 0, text);
        int[] got = new int[x.look(0, 2)];
        for (int point = 0; point < got.length; point++) {
            got[point] = x.point(0, point, 4);
        }
        Desk.due("6: words of the points of '" + text + "'", Arrays.toString(got), Arrays.toString(want));
    }

    private static void feedHasTwentyBytes() {
        ComplaintDesk x = new ComplaintDesk();
        Desk.dueTape("2: a new tape", x, 0);
        Desk.due("2: twenty bytes", x.feed(0, 0, 0, 0, 0), 20);
        Desk.dueTape("2: twenty bytes", x, 20);
        Desk.due("2: behind the tape", x.feed(0, 0, 0, 0, 0), 40);
        x.end(1);
        Desk.due("2: behind what end left", x.feed(0, 0, 0, 0, 0), 21);
        Desk.dueThrow("2: used up", () -> x.letter(0), Desk.ARGUMENT);
        Desk.due("2: from the begin on", x.feed(0, 0, 0, 0, 0), 20);
    }

    private static void feedTakesTheHighestByteFirst() {
        ComplaintDesk x = new ComplaintDesk();
        x.feed(0x61206263, 0x2e64202e, 0x65666768, 0x2e696a20, 0x6b6c6d2e);
        x.letter(0);
        int[] words = {2, 1, 1, 2};
        Desk.due("2: points", x.look(0, 2), words.length);
        for (int point = 0; point < words.length; point++) {
            Desk.due("2: words", x.point(0, point, 4), words[point]);
        }
        int[] wrong = {0x80616161, 0x61806161, 0x61618061, 0x61616180};
        for (int number = 0; number < 5; number++) {
            for (int at = 0; at < 4; at++) {
                ComplaintDesk y = new ComplaintDesk();
                int[] row = {0x61616161, 0x61616161, 0x61616161, 0x61616161, 0x61616161};
                row[number] = wrong[at];
                y.feed(row[0], row[1], row[2], row[3], row[4]);
                Desk.dueThrow("2: a byte of 128", () -> y.letter(0), Desk.ARGUMENT);
                Desk.due("2: the byte " + at + " of number " + number, y.fault(), 4 * number + at);
            }
        }
    }

    private static void feedStopsAtFourHundred() {
        for (int had = 379; had <= 400; had++) {
            ComplaintDesk x = new ComplaintDesk();
            Desk.text(x, "a".repeat(had));
            int want = had <= 380 ? had + 20 : NONE;
            Desk.due("2: behind " + had, x.feed(0x20202020, 0x20202020, 0x20202020, 0x20202020, 0x20202000), want);
            Desk.dueTape("2: behind " + had, x, want == NONE ? had : want);
            Desk.dueThrow("2: behind " + had, () -> x.letter(0), want == NONE ? Desk.NOTHING : Desk.ARGUMENT);
            Desk.due("2: none comes, or all", x.fault(), want == NONE ? NONE : had + 19);
        }
    }

    private static void endKeepsTheFirstBytes() {
        for (int n = 0; n <= 5; n++) {
            ComplaintDesk x = new ComplaintDesk();
            Desk.text(x, "a b c");
            Desk.due("3: end(" + n + ")", x.end(n), true);
            Desk.dueTape("3: end(" + n + ")", x, n);
            if (n > 0) {
                x.letter(0);
                Desk.due("3: words behind end(" + n + ")", x.point(0, 0, 4), (n + 1) / 2);
            }
        }
        ComplaintDesk x = new ComplaintDesk();
        Desk.due("3: end(0) of none", x.end(0), true);
        Desk.text(x, "a".repeat(400));
        Desk.due("3: end(400) of 400", x.end(400), true);
        Desk.due("3: end(399) of 400", x.end(399), true);
        Desk.due("3: then 400 are too many", x.end(400), false);
        Desk.due("3: end(0)", x.end(0), true);
        Desk.dueTape("3: none is left", x, 0);
    }

    private static void endRefuses() {
        int[] none = {6, 20, 400, 401, Integer.MAX_VALUE, -1, -5, Integer.MIN_VALUE};
        for (int n : none) {
            ComplaintDesk x = new ComplaintDesk();
            Desk.text(x, "a b c");
            Desk.due("3: end(" + n + ") of five", x.end(n), false);
            Desk.dueTape("3: nothing happens", x, 5);
            x.letter(0);
            Desk.due("3: nothing happens", x.point(0, 0, 4), 3);
        }
        ComplaintDesk y = new ComplaintDesk();
        Desk.due("3: end(1) of none", y.end(1), false);
        Desk.due("3: end(-1) of none", y.end(-1), false);
    }

    private static void patternOfEachByte() {
        for (int sign = 0; sign < 256; sign++) {
            String text = String.valueOf((char) sign);
            boolean letter = sign >= 'a' && sign <= 'z';
            dueOfPattern(text, letter ? NONE : sign == ' ' ? 1 : 0);
            dueOfPattern("m" + text, letter || sign == ' ' ? NONE : 1);
            dueOfPattern("m or " + text, letter ? NONE : sign == ' ' ? 6 : 5);
            dueOfPattern("m " + text, sign == ' ' ? NONE : 2);
        }
    }

    private static void patternBlanks() {
        dueOfPattern("a", NONE);
        dueOfPattern(" a", NONE);
        dueOfPattern("a ", NONE);
        dueOfPattern("   not   a   and   not   b   or   c   ", NONE);
        dueOfPattern("nota", NONE);
        dueOfPattern("aandb", NONE);
        dueOfPattern("aand b", 5);
        dueOfPattern("a andb", 2);
        dueOfPattern("a orb", 2);
        dueOfPattern("a or notb", NONE);
    }

    private static void patternWordLengths() {
        for (int letters = 1; letters <= 14; letters++) {
            String word = "abcdefghijklmn".substring(0, letters);
            boolean good = letters <= 12;
            dueOfPattern(word, good ? NONE : 0);
            dueOfPattern("  " + word + " ", good ? NONE : 2);
            dueOfPattern("not " + word, good ? NONE : 4);
            dueOfPattern("a and " + word + " or b", good ? NONE : 6);
            dueOfPattern("a or not " + word, good ? NONE : 9);
            dueOfPattern("a " + word, 2);
        }
        dueOfPattern("abcdefghijkl" + "1", 12);
        dueOfPattern("abcdefghijklm" + "1", 0);
        dueOfPattern("z".repeat(400), 0);
        dueOfPattern(TWELVE + " or abcdefghijklm", TWELVE.length() + 4);
        dueOfPattern(TWELVE.substring(0, TWELVE.length() - 1) + "abcdefghijklm", TWELVE.length() - 1);
    }

    private static void patternWordsAreNoneOfThree() {
        String[] three = {"and", "or"};
        for (String word : three) {
            dueOfPattern(word, 0);
            dueOfPattern("  " + word, 2);
            dueOfPattern("not " + word, 4);
            dueOfPattern("a and " + word, 6);
            dueOfPattern("a or " + word + " b", 5);
            dueOfPattern("a or not " + word, 9);
        }
        dueOfPattern("not not", 4);
        dueOfPattern("not not a", 4);
        dueOfPattern("a and not not b", 10);
        dueOfPattern("a not", 2);
        dueOfPattern("a not b", 2);
        dueOfPattern("a and b not", 8);
        String[] near = {"an", "nd", "ands", "sand", "andd", "o", "r", "orr", "ror", "oor", "no", "ot", "nott", "nnot",
            "nor", "dna", "ro", "ton", "andor", "ornot"};
        for (String word : near) {
            dueOfPattern(word, NONE);
            dueOfPattern("not " + word + " and " + word + " or " + word, NONE);
        }
    }

    private static void patternTwelveWords() {
        int end = TWELVE.length();
        dueOfPattern(TWELVE, NONE);
        dueOfPattern(TWELVE + "  ", NONE);
        dueOfPattern(TWELVE.replace("or", "and"), NONE);
        dueOfPattern("not " + TWELVE.replace("or ", "or not "), NONE);
        dueOfPattern(TWELVE.replaceAll("[b-l]", "a"), NONE);
        dueOfPattern(TWELVE + " or m", end + 4);
        dueOfPattern(TWELVE + " and m", end + 5);
        dueOfPattern(TWELVE + " or not m", end + 8);
        dueOfPattern(TWELVE + " and   not   m or 1", end + 13);
        dueOfPattern(TWELVE.replaceAll("[b-l]", "a") + " or a", end + 4);
        dueOfPattern(TWELVE.replace("or", "and") + " and m", end + 11 + 5);
        dueOfPattern(TWELVE + " or", end + 3);
        dueOfPattern(TWELVE + " or  ", end + 5);
        dueOfPattern(TWELVE + " or not", end + 7);
        dueOfPattern(TWELVE + " or not not m", end + 8);
        dueOfPattern(TWELVE + " or and", end + 4);
        dueOfPattern(TWELVE + " or 1", end + 4);
        dueOfPattern(TWELVE + " m", end + 1);
    }

    private static void patternThingsThatCannotStand() {
        dueOfPattern("a b", 2);
        dueOfPattern("a   b", 4);
        dueOfPattern("a.", 1);
        dueOfPattern("a . b", 2);
        dueOfPattern(".", 0);
        dueOfPattern("a and and b", 6);
        dueOfPattern("a and or b", 6);
        dueOfPattern("a or or b", 5);
        dueOfPattern("a or and b", 5);
        dueOfPattern("a or b 1 2", 7);
        dueOfPattern("a or B", 5);
        dueOfPattern("a or bB", 6);
        dueOfPattern("1 b", 0);
        dueOfPattern("abcdefghijklm 1", 0);
        dueOfPattern("a 1 abcdefghijklm", 2);
    }

    private static void patternMoreMustCome() {
        for (int blanks = 0; blanks <= 3; blanks++) {
            String row = " ".repeat(blanks);
            dueOfPattern(row, blanks);
            dueOfPattern("not" + row, 3 + blanks);
            dueOfPattern("a and" + row, 5 + blanks);
            dueOfPattern("a or" + row, 4 + blanks);
            dueOfPattern("a or not" + row, 8 + blanks);
            dueOfPattern("a and b or" + row, 10 + blanks);
            dueOfPattern("a and b" + row, NONE);
        }
    }

    private static void letterOfEachByte() {
        for (int sign = 0; sign < 256; sign++) {
            String text = String.valueOf((char) sign);
            boolean letter = sign >= 'a' && sign <= 'z';
            dueOfLetter(text, letter ? NONE : sign == ' ' ? 1 : 0);
            dueOfLetter("m" + text, letter || sign == ' ' || sign == '.' ? NONE : 1);
            dueOfLetter("m " + text, letter || sign == ' ' || sign == '.' ? NONE : 2);
            dueOfLetter("m." + text, letter || sign == ' ' ? NONE : 2);
            dueOfLetter(text + "m", letter || sign == ' ' ? NONE : 0);
        }
    }

    private static void letterBlanks() {
        dueWords("a", 1);
        dueWords("  a  ", 1);
        dueWords("  a  b.c   .  d  e  f.  ", 2, 1, 3);
        dueWords("a.b", 1, 1);
        dueWords("a . b", 1, 1);
        dueWords("ab", 1);
    }

    private static void letterWordLengths() {
        int[] lengths = {1, 11, 12, 13, 64, 255, 256, 400};
        for (int letters : lengths) {
            dueWords("q".repeat(letters), 1);
        }
        dueWords("a ".repeat(59) + "q".repeat(282), 60);
        dueOfLetter("a ".repeat(60) + "q".repeat(280), 120);
    }

    private static void letterWordsMayBeAnyWord() {
        dueWords("and", 1);
        dueWords("or. not. and", 1, 1, 1);
        dueWords("not not and or", 4);
        dueWords("a a a a", 4);
        dueWords(TWELVE + " or m", 25);
    }

    private static void letterSixPoints() {
        dueWords("a.b.c.d.e", 1, 1, 1, 1, 1);
        dueWords("a.b.c.d.e.f", 1, 1, 1, 1, 1, 1);
        dueWords("a.b.c.d.e.f g h", 1, 1, 1, 1, 1, 3);
        dueWords("a.b.c.d.e.f.", 1, 1, 1, 1, 1, 1);
        dueWords("a.b.c.d.e.f.  ", 1, 1, 1, 1, 1, 1);
        dueOfLetter("a.b.c.d.e.f.g", 12);
        dueOfLetter("a.b.c.d.e.f. g", 13);
        dueOfLetter("a.b.c.d.e.f.   g h. i", 15);
        dueOfLetter("a.b.c.d.e.f.g 1", 12);
        dueOfLetter("a.b.c.d.e.f.1", 12);
        dueOfLetter("a.b.c.d.e.f..", 12);
        dueOfLetter("a.b.c.d.e.f 1. g", 12);
    }

    private static void letterLastStop() {
        dueWords("a.", 1);
        dueWords("a .  ", 1);
        dueWords("a b. c.", 2, 1);
        dueOfLetter("a..", 2);
        dueOfLetter("a. .", 3);
        dueOfLetter("a. b..", 5);
    }

    private static void letterPointsHaveWords() {
        dueOfLetter(".", 0);
        dueOfLetter("  .", 2);
        dueOfLetter(".a", 0);
        dueOfLetter("  . a", 2);
        dueOfLetter("a..b", 2);
        dueOfLetter("a.  .b", 4);
        dueOfLetter("a.b..", 4);
        dueOfLetter("a.1", 2);
    }

    private static void letterSixtyWords() {
        int end = SIXTY.length();
        dueWords(SIXTY.substring(2), 59);
        dueWords(SIXTY, 60);
        dueWords(SIXTY + ".  ", 60);
        dueOfLetter(SIXTY + " k", end + 1);
        dueOfLetter(SIXTY + "   k l. m", end + 3);
        dueOfLetter(SIXTY + ".k", end + 1);
        dueOfLetter(SIXTY + " . k", end + 3);
        dueOfLetter(SIXTY + "..", end + 1);
        dueOfLetter(SIXTY + " 1", end + 1);
        String five = "a b c d e f g h i j.".repeat(5);
        dueWords(five + "a b c d e f g h i j", 10, 10, 10, 10, 10, 10);
        dueOfLetter(five + "a b c d e f g h i j k", five.length() + 20);
        dueWords("a.b.c.d.e." + "f ".repeat(55) + ".", 1, 1, 1, 1, 1, 55);
        dueOfLetter("a.b.c.d.e." + "f ".repeat(56) + ".", 10 + 110);
        dueOfLetter(five + "a b c d e f g h i j. k", five.length() + 21);
    }

    private static void letterEmpty() {
        for (int blanks = 0; blanks <= 3; blanks++) {
            dueOfLetter(" ".repeat(blanks), blanks);
        }
        dueOfLetter(" ".repeat(399), 399);
        dueOfLetter(" ".repeat(400), 400);
    }

    private static void fullTapes() {
        dueOfPattern(" ".repeat(400), 400);
        dueOfPattern(" ".repeat(399) + "a", NONE);
        dueOfPattern(" ".repeat(399) + "1", 399);
        dueOfPattern("a" + " ".repeat(397) + "or", 400);
        dueOfPattern("a" + " ".repeat(397) + "b1", 398);
        dueOfPattern(" ".repeat(388) + "abcdefghijkl", NONE);
        dueOfPattern(" ".repeat(387) + "abcdefghijklm", 387);
        dueOfLetter(" ".repeat(399) + "a", NONE);
        dueOfLetter(" ".repeat(399) + ".", 399);
        dueOfLetter("a" + " ".repeat(398) + ".", NONE);
        dueOfLetter("a." + " ".repeat(397) + ".", 399);
        dueOfLetter("a".repeat(399) + "1", 399);
        dueWords("a".repeat(398) + ".b", 1, 1);
    }

    private static void faultOfTheLatestText() {
        ComplaintDesk x = new ComplaintDesk();
        Desk.due("7: ahead of any", x.fault(), NONE);
        Desk.dueThrow("7: by cause", () -> Desk.cause(x, "a b"), Desk.ARGUMENT);
        Desk.due("7: by cause", x.fault(), 2);
        Desk.dueThrow("7: by letter", () -> Desk.letter(x, 0, "a..b"), Desk.ARGUMENT);
        Desk.due("7: by letter the same place, but of another text", x.fault(), 2);
        Desk.letter(x, 0, "a");
        Desk.due("7: a letter without one", x.fault(), NONE);
        Desk.dueThrow("7: by letter", () -> Desk.letter(x, 0, "abc1"), Desk.ARGUMENT);
        Desk.due("7: by letter", x.fault(), 3);
        Desk.cause(x, "a");
        Desk.due("7: a cause without one", x.fault(), NONE);
        Desk.dueThrow("7: by pattern", () -> Desk.pattern(x, 0, "abcd1"), Desk.ARGUMENT);
        Desk.due("7: by pattern", x.fault(), 4);
        x.feed(0, 0, 0, 0, 0);
        x.end(3);
        x.hours(0, 3);
        x.days(1);
        x.template(1);
        Desk.due("7: other calls read no text", x.fault(), 4);
        Desk.dueThrow("7: a text is not read ahead of the writer", () -> Desk.letter(x, 50, "a"), Desk.ARGUMENT);
        Desk.dueThrow("7: nor ahead of the cause", () -> Desk.pattern(x, 1, "a"), Desk.INDEX);
        Desk.dueThrow("7: nor ahead of above", () -> x.cause(1, 0, 0, false), Desk.INDEX);
        Desk.dueThrow("7: nor ahead of the desk", () -> x.cause(0, 4, 0, false), Desk.INDEX);
        Desk.dueThrow("7: nor ahead of the days", () -> x.cause(0, 0, 61, false), Desk.ARGUMENT);
        Desk.due("7: the latest that was read", x.fault(), 4);
        Desk.pattern(x, 0, "a");
        Desk.due("7: a pattern without one", x.fault(), NONE);
    }
}
