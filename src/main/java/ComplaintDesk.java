import java.util.ArrayList;
import java.util.Arrays;
import java.util.NoSuchElementException;

/** A desk of letters that complain; what each call answers is promised in shared/DOC.md. */
public final class ComplaintDesk {
    public static final int NONE = -1;

    private static final int MOST_BYTES = 400;
    private static final int BYTES_OF_A_FEED = 20;
    private static final int MOST_CAUSES = 12;
    private static final int MOST_PATTERN_WORDS = 12;
    private static final int MOST_WORD_LETTERS = 12;
    private static final int MOST_LETTERS = 80;
    private static final int MOST_POINTS = 6;
    private static final int MOST_LETTER_WORDS = 60;
    private static final int WRITERS = 50;
    private static final int DESKS = 4;
    private static final int FIRST_HOURS = 5;
    private static final int MOST_HOURS = 20;
    private static final int MOST_DUE_DAYS = 60;
    private static final int MOST_DAYS_OF_A_CALL = 60;
    private static final int LAST_DAY = 400;
    private static final int MOST_TEMPLATES = 10;
    private static final int LEAST_RARE_COUNT = 2;
    private static final int RARE_ONE_IN = 20;

    private final Tape tape = new Tape();
    private final Words told = new Words();
    private int faultAt = NONE;
    private int today = 0;
    private final ArrayList<Cause> causes = new ArrayList<>();
    private final ArrayList<Letter> letters = new ArrayList<>();
    private final int[] hoursOf = {FIRST_HOURS, FIRST_HOURS, FIRST_HOURS, FIRST_HOURS};
    private final int[] templates = new int[MOST_TEMPLATES];
    private int templateCount = 0;
    /** Rows that wave and late use again and again, so that no call makes its own. */
    private final int[] countOfDay = new int[LAST_DAY + 1];
    private final int[] dueInDays = new int[MOST_DUE_DAYS + 1];

    public ComplaintDesk() {
    }

    public int feed(int a, int b, int c, int d, int e) {
        if (!tape.hasRoom()) {
            return NONE;
        }
        tape.append(a);
        tape.append(b);
        tape.append(c);
        tape.append(d);
        tape.append(e);
        return tape.length;
    }

    public boolean end(int n) {
        return tape.shorten(n);
    }

    public int cause(int above, int desk, int days, boolean threat)
            throws IndexOutOfBoundsException, IllegalArgumentException, UnsupportedOperationException {
        tape.useUp();
        Cause parent = above == NONE ? null : causeAt(above);
        checkDesk(desk);
        if (days < 0 || days > MOST_DUE_DAYS) {
            throw new IllegalArgumentException("no days");
        }
        Pattern pattern = readPattern();
        if (causes.size() >= MOST_CAUSES) {
            throw new UnsupportedOperationException("no more causes");
        }
        causes.add(new Cause(causes.size(), parent, desk, days, threat, pattern));
        return causes.size() - 1;
    }

    public int pattern(int cause) throws IndexOutOfBoundsException, IllegalArgumentException {
        tape.useUp();
        Cause changed = causeAt(cause);
        changed.pattern = readPattern();
        return sortAnew();
    }

    public int letter(int writer) throws IllegalArgumentException, UnsupportedOperationException {
        tape.useUp();
        if (writer < 0 || writer >= WRITERS) {
            throw new IllegalArgumentException("no writer");
        }
        faultAt = Letter.firstWrong(tape, told);
        if (faultAt != NONE) {
            throw new IllegalArgumentException("the text is wrong");
        }
        if (letters.size() >= MOST_LETTERS) {
            throw new UnsupportedOperationException("no more letters");
        }
        Letter come = new Letter(writer, today);
        for (int part = 0; part < told.parts && part < MOST_POINTS; part++) {
            Point point = new Point(told.codesOf(part));
            point.putTo(causeOf(point), come.coming);
            come.points.add(point);
        }
        letters.add(come);
        return letters.size() - 1;
    }

    public int fault() {
        return faultAt;
    }

    public void hours(int desk, int n) throws IndexOutOfBoundsException, IllegalArgumentException {
        checkDesk(desk);
        if (n < 0 || n > MOST_HOURS) {
            throw new IllegalArgumentException("no hours");
        }
        hoursOf[desk] = n;
    }

    public int days(int n) throws IllegalArgumentException {
        if (n < 0 || n > MOST_DAYS_OF_A_CALL) {
            throw new IllegalArgumentException("no days");
        }
        for (int day = 0; day < n && today < LAST_DAY; day++) {
            today++;
            for (int desk = 0; desk < DESKS; desk++) {
                work(desk);
            }
        }
        return today;
    }

    public boolean answer(int letter, int point) throws IndexOutOfBoundsException {
        Point asked = letterAt(letter).pointAt(point);
        if (asked.isAnswered()) {
            return false;
        }
        asked.answered = today;
        return true;
    }

    public int point(int letter, int point, int what) throws IndexOutOfBoundsException, NoSuchElementException {
        Letter of = letterAt(letter);
        Point asked = of.pointAt(point);
        switch (what) {
            case 0:
                return asked.cause == null ? NONE : asked.cause.number;
            case 1:
                return asked.due;
            case 2:
                return asked.answered;
            case 3:
                return matter(of.writer, asked.cause);
            case 4:
                return asked.codes.length;
            default:
                throw new NoSuchElementException("nothing else is told of a point");
        }
    }

    public int look(int letter, int what) throws IndexOutOfBoundsException, NoSuchElementException {
        Letter asked = letterAt(letter);
        switch (what) {
            case 0:
                return asked.writer;
            case 1:
                return asked.coming;
            case 2:
                return asked.points.size();
            case 3:
                return asked.isClosed() ? 1 : 0;
            case 4:
                return fewestTemplates(asked.causeBits());
            default:
                throw new NoSuchElementException("nothing else is told of a letter");
        }
    }

    public int late(int desk) throws IndexOutOfBoundsException {
        checkDesk(desk);
        int waiting = fillDueInDays(desk);
        int kept = 0;
        // Any order that keeps the most due days may take the nearer due first, so what can be kept
        // of all that is due so far is what the days so far have hours for.
        for (int ahead = 1; ahead < dueInDays.length; ahead++) {
            kept = Math.min(kept + dueInDays[ahead], hoursOf[desk] * ahead);
        }
        return waiting - kept;
    }

    public int waits(int desk) throws IndexOutOfBoundsException {
        checkDesk(desk);
        int waiting = 0;
        for (int i = 0; i < letters.size(); i++) {
            ArrayList<Point> points = letters.get(i).points;
            for (int k = 0; k < points.size(); k++) {
                if (points.get(k).isWaitingAt(desk)) {
                    waiting++;
                }
            }
        }
        return waiting;
    }

    public int template(int causes) throws IllegalArgumentException {
        int known = (1 << this.causes.size()) - 1;
        if (causes == 0 || (causes & ~known) != 0) {
            throw new IllegalArgumentException("bits of no cause, or none");
        }
        if (templateCount >= templates.length) {
            return NONE;
        }
        templates[templateCount] = causes;
        templateCount++;
        return templateCount - 1;
    }

    public int counts(int cause, int day) throws IndexOutOfBoundsException {
        Cause asked = causeAt(cause);
        if (day < 0 || day > today) {
            return 0;
        }
        fillCountOfDay(asked);
        return day < countOfDay.length ? countOfDay[day] : 0;
    }

    public int wave(int cause) throws IndexOutOfBoundsException {
        fillCountOfDay(causeAt(cause));
        for (int day = 0; day <= today && day < countOfDay.length; day++) {
            if (isRare(day)) {
                return day;
            }
        }
        return NONE;
    }

    public int count(int what) {
        switch (what) {
            case 0:
                return today;
            case 1:
                return causes.size();
            case 2:
                return letters.size();
            case 3:
                return closedLetters();
            case 4:
            case 5:
            case 6:
            case 7:
                return pointsCounted(what);
            case 8:
                return templateCount;
            default:
                return NONE;
        }
    }

    private Cause causeAt(int number) {
        if (number < 0 || number >= causes.size()) {
            throw new IndexOutOfBoundsException("no such cause");
        }
        return causes.get(number);
    }

    private Letter letterAt(int number) {
        if (number < 0 || number >= letters.size()) {
            throw new IndexOutOfBoundsException("no such letter");
        }
        return letters.get(number);
    }

    private static void checkDesk(int desk) {
        if (desk < 0 || desk >= DESKS) {
            throw new IndexOutOfBoundsException("no such desk");
        }
    }

    private Pattern readPattern() {
        faultAt = Pattern.firstWrong(tape, told);
        if (faultAt != NONE) {
            throw new IllegalArgumentException("the text is wrong");
        }
        return new Pattern(told);
    }

    /** One pass does, because a cause's number is above that of the one above it. */
    private Cause causeOf(Point point) {
        Cause found = null;
        for (int i = 0; i < causes.size(); i++) {
            Cause next = causes.get(i);
            if (next.above == found && next.pattern.fits(point)) {
                found = next;
            }
        }
        return found;
    }

    private int sortAnew() {
        int moved = 0;
        for (int i = 0; i < letters.size(); i++) {
            Letter letter = letters.get(i);
            for (int k = 0; k < letter.points.size(); k++) {
                Point point = letter.points.get(k);
                if (!point.isAnswered() && point.putTo(causeOf(point), letter.coming)) {
                    moved++;
                }
            }
        }
        return moved;
    }

    private void work(int desk) {
        for (int n = 0; n < hoursOf[desk]; n++) {
            Point first = firstWaiting(desk);
            if (first == null) {
                return;
            }
            first.answered = today;
        }
    }

    /** Letters and points are gone through by number: of two that are alike the first met stays first. */
    private Point firstWaiting(int desk) {
        Point first = null;
        for (int i = 0; i < letters.size(); i++) {
            ArrayList<Point> points = letters.get(i).points;
            for (int k = 0; k < points.size(); k++) {
                Point point = points.get(k);
                if (point.isWaitingAt(desk) && (first == null || point.isMorePressing(first))) {
                    first = point;
                }
            }
        }
        return first;
    }

    private int matter(int writer, Cause cause) {
        if (cause == null) {
            return 0;
        }
        int same = 0;
        for (int i = 0; i < letters.size(); i++) {
            Letter letter = letters.get(i);
            for (int k = 0; k < letter.points.size(); k++) {
                if (letter.writer == writer && letter.points.get(k).cause == cause) {
                    same++;
                }
            }
        }
        return same;
    }

    /** Sets are tried from the least bits on: only one of fewer templates takes the place of one found. */
    private int fewestTemplates(int wanted) {
        if (wanted == NONE) {
            return NONE;
        }
        int best = NONE;
        int fewest = MOST_TEMPLATES + 1;
        for (int set = 1; set < 1 << templateCount; set++) {
            int size = Integer.bitCount(set);
            if (size < fewest && (wanted & ~causesOfSet(set)) == 0) {
                best = set;
                fewest = size;
            }
        }
        return best;
    }

    private int causesOfSet(int set) {
        int bits = 0;
        for (int i = 0; i < templateCount && i < templates.length; i++) {
            if ((set >> i & 1) == 1) {
                bits |= templates[i];
            }
        }
        return bits;
    }

    /** What is due today already is late on the next day: such points wait, but stand in no place of the row. */
    private int fillDueInDays(int desk) {
        Arrays.fill(dueInDays, 0);
        int waiting = 0;
        for (int i = 0; i < letters.size(); i++) {
            ArrayList<Point> points = letters.get(i).points;
            for (int k = 0; k < points.size(); k++) {
                Point point = points.get(k);
                if (point.isWaitingAt(desk)) {
                    waiting++;
                    int ahead = point.due - today;
                    if (ahead > 0 && ahead < dueInDays.length) {
                        dueInDays[ahead]++;
                    }
                }
            }
        }
        return waiting;
    }

    private void fillCountOfDay(Cause cause) {
        Arrays.fill(countOfDay, 0);
        for (int i = 0; i < letters.size(); i++) {
            Letter letter = letters.get(i);
            if (letter.coming >= 0 && letter.coming < countOfDay.length) {
                countOfDay[letter.coming] += letter.pointsUnder(cause);
            }
        }
    }

    private boolean isRare(int day) {
        if (day < 0 || day >= countOfDay.length || countOfDay[day] < LEAST_RARE_COUNT) {
            return false;
        }
        int notLess = 0;
        for (int past = 0; past < day; past++) {
            if (countOfDay[past] >= countOfDay[day]) {
                notLess++;
            }
        }
        return (notLess + 1) * RARE_ONE_IN <= day + 1;
    }

    private int closedLetters() {
        int closed = 0;
        for (int i = 0; i < letters.size(); i++) {
            if (letters.get(i).isClosed()) {
                closed++;
            }
        }
        return closed;
    }

    private int pointsCounted(int what) {
        int sum = 0;
        for (int i = 0; i < letters.size(); i++) {
            ArrayList<Point> points = letters.get(i).points;
            for (int k = 0; k < points.size(); k++) {
                if (points.get(k).isCountedAs(what)) {
                    sum++;
                }
            }
        }
        return sum;
    }

    /** The bytes fed, and the text that they become when a call uses them up: it is told thing by thing. */
    private static final class Tape {
        private static final int BLANK = ' ';
        private static final int STOP = '.';
        private static final int LETTER_BITS = 5;

        final byte[] bytes = new byte[MOST_BYTES];
        int length = 0;
        int textLength = 0;
        /** The thing that next() came to: a run of letters, or one byte that is neither letter nor blank. */
        int thingAt = 0;
        int thingEnd = 0;

        boolean hasRoom() {
            return length <= MOST_BYTES - BYTES_OF_A_FEED;
        }

        void append(int number) {
            for (int shift = 24; shift >= 0 && length < bytes.length; shift -= 8) {
                bytes[length] = (byte) (number >> shift);
                length++;
            }
        }

        boolean shorten(int n) {
            if (n < 0 || n > length) {
                return false;
            }
            length = n;
            return true;
        }

        void useUp() {
            textLength = length;
            length = 0;
            thingAt = 0;
            thingEnd = 0;
        }

        boolean next() {
            thingAt = thingEnd;
            while (thingAt < textLength && byteAt(thingAt) == BLANK) {
                thingAt++;
            }
            thingEnd = thingAt;
            while (thingEnd < textLength && isLetterAt(thingEnd)) {
                thingEnd++;
            }
            if (thingEnd == thingAt && thingAt < textLength) {
                thingEnd++;
            }
            return thingAt < textLength;
        }

        boolean isWord() {
            return isLetterAt(thingAt);
        }

        boolean isStop() {
            return byteAt(thingAt) == STOP;
        }

        /** A number of its own for each word that a pattern may have; NO_CODE for all else. */
        long codeOfThing() {
            if (!isWord() || thingEnd - thingAt > MOST_WORD_LETTERS) {
                return Words.NO_CODE;
            }
            long code = 0;
            for (int at = thingAt; at < thingEnd; at++) {
                code = (code << LETTER_BITS) + (byteAt(at) - 'a' + 1);
            }
            return code;
        }

        private boolean isLetterAt(int at) {
            int sign = byteAt(at);
            return sign >= 'a' && sign <= 'z';
        }

        private int byteAt(int at) {
            return at >= 0 && at < textLength && at < bytes.length ? bytes[at] & 255 : NONE;
        }
    }

    /** The words of the text read last, each with its part of the text (an ALL or a POINT). */
    private static final class Words {
        static final long NO_CODE = 0;

        final long[] codes = new long[MOST_LETTER_WORDS];
        final int[] partOf = new int[MOST_LETTER_WORDS];
        int size = 0;
        int parts = 0;
        /** Bits of the words with a not: patterns alone have them, and far fewer words than bits. */
        int nots = 0;

        void clear() {
            size = 0;
            parts = 0;
            nots = 0;
        }

        void beginPart() {
            parts++;
        }

        void add(long code, boolean not) {
            if (size >= codes.length || size >= partOf.length) {
                return;
            }
            codes[size] = code;
            partOf[size] = parts - 1;
            if (not) {
                nots |= 1 << size;
            }
            size++;
        }

        long[] codesOf(int part) {
            int from = 0;
            while (from < size && partOf[from] != part) {
                from++;
            }
            int to = from;
            while (to < size && partOf[to] == part) {
                to++;
            }
            return Arrays.copyOfRange(codes, from, to);
        }
    }

    private static final class Pattern {
        private static final long AND = (1 << 10) + (14 << 5) + 4;
        private static final long OR = (15 << 5) + 18;
        private static final long NOT = (14 << 10) + (15 << 5) + 20;

        private final long[] codes;
        private final int[] allOf;
        private final int nots;

        Pattern(Words told) {
            codes = Arrays.copyOf(told.codes, told.size);
            allOf = Arrays.copyOf(told.partOf, told.size);
            nots = told.nots;
        }

        static int firstWrong(Tape tape, Words told) {
            boolean wordMustCome = true;
            boolean behindNot = false;
            told.clear();
            told.beginPart();
            for (int things = 0; things < MOST_BYTES && tape.next(); things++) {
                long code = tape.codeOfThing();
                if (!wordMustCome) {
                    if (code != AND && code != OR) {
                        return tape.thingAt;
                    }
                    if (code == OR) {
                        told.beginPart();
                    }
                    wordMustCome = true;
                } else if (code == NOT && !behindNot) {
                    behindNot = true;
                } else {
                    if (!isPlainWord(code) || told.size >= MOST_PATTERN_WORDS) {
                        return tape.thingAt;
                    }
                    told.add(code, behindNot);
                    wordMustCome = false;
                    behindNot = false;
                }
            }
            return wordMustCome ? tape.textLength : NONE;
        }

        private static boolean isPlainWord(long code) {
            return code != Words.NO_CODE && code != AND && code != OR && code != NOT;
        }

        boolean fits(Point point) {
            int all = 0;
            boolean holds = true;
            for (int i = 0; i < codes.length && i < allOf.length; i++) {
                if (allOf[i] != all) {
                    if (holds) {
                        return true;
                    }
                    all = allOf[i];
                    holds = true;
                }
                boolean not = (nots >> i & 1) == 1;
                if (holds && point.hasWord(codes[i]) == not) {
                    holds = false;
                }
            }
            return holds;
        }
    }

    private static final class Cause {
        final int number;
        /** null: a top one. */
        final Cause above;
        final int desk;
        final int dueDays;
        final boolean threat;
        Pattern pattern;

        Cause(int number, Cause above, int desk, int dueDays, boolean threat, Pattern pattern) {
            this.number = number;
            this.above = above;
            this.desk = desk;
            this.dueDays = dueDays;
            this.threat = threat;
            this.pattern = pattern;
        }

        boolean isUnder(Cause other) {
            for (Cause step = this; step != null; step = step.above) {
                if (step == other) {
                    return true;
                }
            }
            return false;
        }
    }

    private static final class Letter {
        final int writer;
        final int coming;
        final ArrayList<Point> points = new ArrayList<>();

        Letter(int writer, int coming) {
            this.writer = writer;
            this.coming = coming;
        }

        static int firstWrong(Tape tape, Words told) {
            boolean wordMustCome = true;
            told.clear();
            for (int things = 0; things < MOST_BYTES && tape.next(); things++) {
                if (tape.isWord()) {
                    if (wordMustCome) {
                        if (told.parts >= MOST_POINTS) {
                            return tape.thingAt;
                        }
                        told.beginPart();
                        wordMustCome = false;
                    }
                    if (told.size >= MOST_LETTER_WORDS) {
                        return tape.thingAt;
                    }
                    told.add(tape.codeOfThing(), false);
                } else if (tape.isStop() && !wordMustCome) {
                    wordMustCome = true;
                } else {
                    return tape.thingAt;
                }
            }
            // Behind a last stop nothing more must come: only a text without any word is too short.
            return told.size == 0 ? tape.textLength : NONE;
        }

        Point pointAt(int number) {
            if (number < 0 || number >= points.size()) {
                throw new IndexOutOfBoundsException("no such point");
            }
            return points.get(number);
        }

        boolean isClosed() {
            for (int k = 0; k < points.size(); k++) {
                if (!points.get(k).isAnswered()) {
                    return false;
                }
            }
            return true;
        }

        /** NONE, if a point is open. */
        int causeBits() {
            int bits = 0;
            for (int k = 0; k < points.size(); k++) {
                Cause cause = points.get(k).cause;
                if (cause == null) {
                    return NONE;
                }
                bits |= 1 << cause.number;
            }
            return bits;
        }

        int pointsUnder(Cause other) {
            int under = 0;
            for (int k = 0; k < points.size(); k++) {
                Cause cause = points.get(k).cause;
                if (cause != null && cause.isUnder(other)) {
                    under++;
                }
            }
            return under;
        }
    }

    private static final class Point {
        /** A word too long for any pattern stands here as NO_CODE, which no pattern asks for. */
        final long[] codes;
        /** null: open. */
        Cause cause = null;
        int due = NONE;
        int answered = NONE;

        Point(long[] codes) {
            this.codes = codes;
        }

        boolean hasWord(long code) {
            for (int i = 0; i < codes.length; i++) {
                if (codes[i] == code) {
                    return true;
                }
            }
            return false;
        }

        /** Whether that is another cause than before; else the due day stays. */
        boolean putTo(Cause other, int coming) {
            if (other == cause) {
                return false;
            }
            cause = other;
            due = other == null ? NONE : coming + other.dueDays;
            return true;
        }

        boolean isAnswered() {
            return answered != NONE;
        }

        boolean isWaitingAt(int desk) {
            return answered == NONE && cause != null && cause.desk == desk;
        }

        boolean isMorePressing(Point other) {
            if (isThreat() != other.isThreat()) {
                return isThreat();
            }
            return due < other.due;
        }

        private boolean isThreat() {
            return cause != null && cause.threat;
        }

        /** What is as in count of the face. */
        boolean isCountedAs(int what) {
            switch (what) {
                case 4:
                    return true;
                case 5:
                    return cause == null && answered == NONE;
                case 6:
                    return answered != NONE;
                case 7:
                    return answered != NONE && due != NONE && answered > due;
                default:
                    return false;
            }
        }
    }
}
