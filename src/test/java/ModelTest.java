import java.util.ArrayList;
import java.util.Arrays;
import java.util.Comparator;
import java.util.HashSet;
import java.util.List;
import java.util.NoSuchElementException;
import java.util.Random;
import java.util.Set;

/** Many random runs of calls, each answered by the class and by a second, slow program written apart from it. */
public final class ModelTest {
    private static final int NONE = -1;
    private static final int RUNS = 4000;
    /** What an object answers behind so many calls is free. */
    private static final int MOST_CALLS = 512;
    private static final String[] VOCABULARY = {"a", "b", "c", "late", "tram", "and", "or", "not",
        "abcdefghijkl", "abcdefghijklm", "x"};

    private static final class MPoint {
        Set<String> words = new HashSet<>();
        int wordCount;
        int letter;
        int index;
        int cause = NONE;
        int due = NONE;
        int answered = NONE;
    }

    private static final class MLetter {
        int writer;
        int coming;
        List<MPoint> points = new ArrayList<>();
    }

    private static final class MCause {
        int above;
        int desk;
        int days;
        boolean threat;
        List<List<String>> alls;
    }

    /** The slow program. */
    private static final class Model {
        final List<Integer> tape = new ArrayList<>();
        final List<MCause> causes = new ArrayList<>();
        final List<MLetter> letters = new ArrayList<>();
        final List<Integer> templates = new ArrayList<>();
        final int[] hours = {5, 5, 5, 5};
        int today;
        int fault = NONE;

        List<MPoint> points() {
            List<MPoint> all = new ArrayList<>();
            for (MLetter letter : letters) {
                all.addAll(letter.points);
            }
            return all;
        }

        int feed(int[] numbers) {
            if (tape.size() + 20 > 400) {
                return NONE;
            }
            for (int number : numbers) {
                for (int part = 0; part < 4; part++) {
                    tape.add(number >>> 8 * (3 - part) & 255);
                }
            }
            return tape.size();
        }

        int end(int n) {
            if (n < 0 || n > tape.size()) {
                return 0;
            }
            tape.subList(n, tape.size()).clear();
            return 1;
        }

        String useUp() {
            StringBuilder text = new StringBuilder();
            for (int sign : tape) {
                text.append((char) sign);
            }
            tape.clear();
            return text.toString();
        }

        /** Things as strings, with where they begin; the last place is the text's length. */
        static List<String> things(String text, List<Integer> places) {
            List<String> things = new ArrayList<>();
            int at = 0;
            while (at < text.length()) {
                if (text.charAt(at) == ' ') {
                    at++;
                    continue;
                }
                int to = at;
                while (to < text.length() && text.substring(to, to + 1).matches("[a-z]")) {
                    to++;
                }
                to = Math.max(to, at + 1);
                things.add(text.substring(at, to));
                places.add(at);
                at = to;
            }
            places.add(text.length());
            return things;
        }

        /** Whether these things can be the begin of a pattern. */
        static boolean beginsPattern(List<String> things) {
            String kinds = "";
            int plain = 0;
            for (String thing : things) {
                if (thing.equals("and") || thing.equals("or")) {
                    kinds += "o";
                } else if (thing.equals("not")) {
                    kinds += "n";
                } else if (thing.matches("[a-z]{1,12}")) {
                    kinds += "w";
                    plain++;
                } else {
                    return false;
                }
            }
            return plain <= 12 && kinds.matches("(n?wo)*(n?w?)");
        }

        static boolean beginsLetter(List<String> things) {
            String kinds = "";
            int words = 0;
            for (String thing : things) {
                if (thing.equals(".")) {
                    kinds += ".";
                } else if (thing.matches("[a-z]+")) {
                    kinds += "w";
                    words++;
                } else {
                    return false;
                }
            }
            return words <= 60 && kinds.matches("(w+\\.){0,5}(w+\\.?)?");
        }

        List<List<String>> readPattern() {
            String text = useUp();
            List<Integer> places = new ArrayList<>();
            List<String> things = things(text, places);
            fault = NONE;
            for (int n = 1; n <= things.size() && fault == NONE; n++) {
                if (!beginsPattern(things.subList(0, n))) {
                    fault = places.get(n - 1);
                }
            }
            if (fault == NONE && (things.isEmpty() || List.of("and", "or", "not").contains(things.get(things.size() - 1)))) {
                fault = text.length();
            }
            if (fault != NONE) {
                throw new IllegalArgumentException();
            }
            List<List<String>> alls = new ArrayList<>();
            for (String all : (" " + String.join(" ", things) + " ").split(" or ")) {
                List<String> words = new ArrayList<>();
                for (String word : (" " + all.trim() + " ").split(" and ")) {
                    words.add(word.trim());
                }
                alls.add(words);
            }
            return alls;
        }

        static boolean fits(List<List<String>> alls, Set<String> words) {
            return alls.stream().anyMatch(all -> all.stream().allMatch(word ->
                    word.startsWith("not ") ? !words.contains(word.substring(4)) : words.contains(word)));
        }

        int sort(MPoint point, int above) {
            for (int n = 0; n < causes.size(); n++) {
                if (causes.get(n).above == above && fits(causes.get(n).alls, point.words)) {
                    return sort(point, n);
                }
            }
            return above;
        }

        boolean put(MPoint point) {
            int old = point.cause;
            point.cause = sort(point, NONE);
            if (point.cause != old) {
                point.due = point.cause == NONE ? NONE
                        : letters.get(point.letter).coming + causes.get(point.cause).days;
            }
            return point.cause != old;
        }

        int cause(int above, int desk, int days, boolean threat) {
            if (above != NONE && (above < 0 || above >= causes.size()) || desk < 0 || desk > 3) {
                tape.clear();
                throw new IndexOutOfBoundsException();
            }
            if (days < 0 || days > 60) {
                tape.clear();
                throw new IllegalArgumentException();
            }
            List<List<String>> alls = readPattern();
            if (causes.size() == 12) {
                throw new UnsupportedOperationException();
            }
            MCause made = new MCause();
            made.above = above;
            made.desk = desk;
            made.days = days;
            made.threat = threat;
            made.alls = alls;
            causes.add(made);
            return causes.size() - 1;
        }

        void needCause(int cause) {
            if (cause < 0 || cause >= causes.size()) {
                throw new IndexOutOfBoundsException();
            }
        }

        int pattern(int cause) {
            if (cause < 0 || cause >= causes.size()) {
                tape.clear();
            }
            needCause(cause);
            causes.get(cause).alls = readPattern();
            int moved = 0;
            for (MPoint point : points()) {
                if (point.answered == NONE && put(point)) {
                    moved++;
                }
            }
            return moved;
        }

        int letter(int writer) {
            if (writer < 0 || writer > 49) {
                tape.clear();
                throw new IllegalArgumentException();
            }
            String text = useUp();
            List<Integer> places = new ArrayList<>();
            List<String> things = things(text, places);
            fault = things.isEmpty() ? text.length() : NONE;
            for (int n = 1; n <= things.size() && fault == NONE; n++) {
                if (!beginsLetter(things.subList(0, n))) {
                    fault = places.get(n - 1);
                }
            }
            if (fault != NONE) {
                throw new IllegalArgumentException();
            }
            if (letters.size() == 80) {
                throw new UnsupportedOperationException();
            }
            MLetter come = new MLetter();
            come.writer = writer;
            come.coming = today;
            letters.add(come);
            for (String part : String.join(" ", things).split("\\.")) {
                if (part.isBlank()) {
                    continue;
                }
                MPoint point = new MPoint();
                String[] words = part.trim().split(" +");
                point.words.addAll(Arrays.asList(words));
                point.wordCount = words.length;
                point.letter = letters.size() - 1;
                point.index = come.points.size();
                come.points.add(point);
                put(point);
            }
            return letters.size() - 1;
        }

        static void needDesk(int desk) {
            if (desk < 0 || desk > 3) {
                throw new IndexOutOfBoundsException();
            }
        }

        int hours(int desk, int n) {
            needDesk(desk);
            if (n < 0 || n > 20) {
                throw new IllegalArgumentException();
            }
            hours[desk] = n;
            return 0;
        }

        List<MPoint> waiting(int desk) {
            List<MPoint> waiting = points();
            waiting.removeIf(point -> point.answered != NONE || point.cause == NONE
                    || causes.get(point.cause).desk != desk);
            return waiting;
        }

        int days(int n) {
            if (n < 0 || n > 60) {
                throw new IllegalArgumentException();
            }
            for (int day = 0; day < n; day++) {
                if (today == 400) {
                    break;
                }
                today++;
                for (int desk = 0; desk < 4; desk++) {
                    List<MPoint> waiting = waiting(desk);
                    waiting.sort(Comparator.comparing((MPoint point) -> !causes.get(point.cause).threat)
                            .thenComparing(point -> point.due).thenComparing(point -> point.letter)
                            .thenComparing(point -> point.index));
                    for (int k = 0; k < Math.min(hours[desk], waiting.size()); k++) {
                        waiting.get(k).answered = today;
                    }
                }
            }
            return today;
        }

        MLetter letterAt(int letter) {
            if (letter < 0 || letter >= letters.size()) {
                throw new IndexOutOfBoundsException();
            }
            return letters.get(letter);
        }

        MPoint pointAt(int letter, int point) {
            MLetter of = letterAt(letter);
            if (point < 0 || point >= of.points.size()) {
                throw new IndexOutOfBoundsException();
            }
            return of.points.get(point);
        }

        int answer(int letter, int point) {
            MPoint asked = pointAt(letter, point);
            int was = asked.answered;
            asked.answered = was == NONE ? today : was;
            return was == NONE ? 1 : 0;
        }

        int point(int letter, int point, int what) {
            MPoint asked = pointAt(letter, point);
            if (what < 0 || what > 4) {
                throw new NoSuchElementException();
            }
            int matter = asked.cause == NONE ? 0 : (int) points().stream().filter(other -> other.cause == asked.cause
                    && letters.get(other.letter).writer == letterAt(letter).writer).count();
            return new int[] {asked.cause, asked.due, asked.answered, matter, asked.wordCount}[what];
        }

        static boolean closed(MLetter letter) {
            return letter.points.stream().allMatch(point -> point.answered != NONE);
        }

        int look(int letter, int what) {
            MLetter asked = letterAt(letter);
            if (what < 0 || what > 4) {
                throw new NoSuchElementException();
            }
            return new int[] {asked.writer, asked.coming, asked.points.size(), closed(asked) ? 1 : 0,
                what == 4 ? theAnswer(asked) : 0}[what];
        }

        int theAnswer(MLetter letter) {
            if (letter.points.stream().anyMatch(point -> point.cause == NONE)) {
                return NONE;
            }
            List<Integer> sets = new ArrayList<>();
            for (int set = 0; set < 1 << templates.size(); set++) {
                int has = 0;
                for (int n = 0; n < templates.size(); n++) {
                    has |= (set >> n) % 2 == 1 ? templates.get(n) : 0;
                }
                int bits = has;
                if (letter.points.stream().allMatch(point -> (bits >> point.cause) % 2 == 1)) {
                    sets.add(set);
                }
            }
            return sets.stream().min(Comparator.comparing((Integer set) -> Integer.bitCount(set))
                    .thenComparing(set -> set)).orElse(NONE);
        }

        /** By matching points with places on days, one by one, along ways that give others another place. */
        int late(int desk) {
            needDesk(desk);
            List<MPoint> waiting = waiting(desk);
            int[] place = new int[hours[desk] * 60];
            Arrays.fill(place, NONE);
            int kept = 0;
            for (int n = 0; n < waiting.size(); n++) {
                if (found(waiting, n, place, new boolean[place.length], desk)) {
                    kept++;
                }
            }
            return waiting.size() - kept;
        }

        boolean found(List<MPoint> waiting, int n, int[] place, boolean[] seen, int desk) {
            for (int k = 0; k < place.length; k++) {
                int day = today + 1 + k / hours[desk];
                if (day > waiting.get(n).due || seen[k]) {
                    continue;
                }
                seen[k] = true;
                if (place[k] == NONE || found(waiting, place[k], place, seen, desk)) {
                    place[k] = n;
                    return true;
                }
            }
            return false;
        }

        int waits(int desk) {
            needDesk(desk);
            return waiting(desk).size();
        }

        int template(int bits) {
            if (bits <= 0 || bits >= 1 << causes.size()) {
                throw new IllegalArgumentException();
            }
            if (templates.size() == 10) {
                return NONE;
            }
            templates.add(bits);
            return templates.size() - 1;
        }

        boolean under(int cause, int root) {
            return cause != NONE && (cause == root || under(causes.get(cause).above, root));
        }

        int counts(int cause, int day) {
            needCause(cause);
            return (int) points().stream().filter(point -> letters.get(point.letter).coming == day
                    && under(point.cause, cause)).count();
        }

        int wave(int cause) {
            needCause(cause);
            int[] row = new int[today + 1];
            for (int day = 0; day <= today; day++) {
                row[day] = counts(cause, day);
            }
            for (int day = 0; day <= today; day++) {
                int own = row[day];
                long notLess = Arrays.stream(row, 0, day).filter(past -> past >= own).count();
                if (own >= 2 && (notLess + 1) * 20 <= day + 1) {
                    return day;
                }
            }
            return NONE;
        }

        int count(int what) {
            switch (what) {
                case 0: return today;
                case 1: return causes.size();
                case 2: return letters.size();
                case 3: return (int) letters.stream().filter(Model::closed).count();
                case 4: return points().size();
                case 5: return (int) points().stream().filter(p -> p.cause == NONE && p.answered == NONE).count();
                case 6: return (int) points().stream().filter(p -> p.answered != NONE).count();
                case 7: return (int) points().stream().filter(p -> p.cause != NONE && p.answered > p.due).count();
                case 8: return templates.size();
                default: return NONE;
            }
        }
    }

    private interface Asked {
        int ask();
    }

    private static String toldByClass(Asked asked) {
        try {
            return "" + asked.ask();
        } catch (RuntimeException e) {
            return Desk.nameOf(e);
        }
    }

    private static String toldByModel(Asked asked) {
        try {
            return "" + asked.ask();
        } catch (RuntimeException e) {
            return e.getClass().getName();
        }
    }

    private final Random random;
    private final ComplaintDesk desk = new ComplaintDesk();
    private final Model model = new Model();
    private final int run;
    private int calls = 0;
    private final int wrongness;

    private ModelTest(int run) {
        this.run = run;
        random = new Random(run);
        wrongness = run % 4 == 0 ? 4 : 40;
    }

    private void both(String call, Asked real, Asked slow) {
        if (calls == MOST_CALLS) {
            return;
        }
        calls++;
        Desk.due("run " + run + ", call " + calls + ": " + call, toldByClass(real), toldByModel(slow));
    }

    private boolean rarely() {
        return random.nextInt(wrongness) == 0;
    }

    /** Mostly from 0 to below bound, else near it or far away. */
    private int number(int bound) {
        if (!rarely() && bound > 0) {
            return random.nextInt(bound);
        }
        int[] odd = {-2, -1, 0, bound - 1, bound, bound + 1, Integer.MIN_VALUE, Integer.MAX_VALUE, random.nextInt()};
        return odd[random.nextInt(odd.length)];
    }

    private String word() {
        return random.nextInt(3) > 0 ? VOCABULARY[random.nextInt(3)] : VOCABULARY[random.nextInt(VOCABULARY.length)];
    }

    private String blanks() {
        return random.nextInt(4) == 0 ? "  " : " ";
    }

    private String patternText() {
        StringBuilder text = new StringBuilder(random.nextInt(5) == 0 ? " " : "");
        int words = rarely() ? 11 + random.nextInt(3) : 1 + random.nextInt(4);
        for (int n = 0; n < words; n++) {
            text.append(n == 0 ? "" : blanks() + (random.nextBoolean() ? "and" : "or") + blanks());
            text.append(random.nextInt(3) == 0 ? "not" + blanks() : "");
            text.append(rarely() ? word() : VOCABULARY[random.nextInt(5)]);
        }
        return spoiled(text.append(random.nextInt(5) == 0 ? " " : "").toString());
    }

    private String letterText() {
        StringBuilder text = new StringBuilder(random.nextInt(5) == 0 ? " " : "");
        int points = rarely() ? 6 + random.nextInt(2) : 1 + random.nextInt(6);
        for (int n = 0; n < points; n++) {
            text.append(n == 0 ? "" : random.nextBoolean() ? "." : " . ");
            int words = rarely() ? 10 + random.nextInt(51) : 1 + random.nextInt(4);
            for (int k = 0; k < words; k++) {
                text.append(k == 0 ? "" : blanks()).append(word());
            }
        }
        return spoiled(text.append(random.nextInt(3) == 0 ? "." : "").toString());
    }

    private String spoiled(String text) {
        if (!rarely()) {
            return text;
        }
        int at = random.nextInt(text.length() + 1);
        String[] odd = {".", "..", " ", "A", "7", "\u00e1", "\n", " and ", " or ", " not ", "", "zzzzzzzzzzzzz"};
        int to = random.nextInt(3) == 0 ? text.length() : at;
        return text.substring(0, at) + odd[random.nextInt(odd.length)] + text.substring(to);
    }

    private void feedBoth(String text) {
        both("end(0)", () -> desk.end(0) ? 1 : 0, () -> model.end(0));
        String whole = text.length() > 400 ? text.substring(0, 400) : text;
        for (int from = 0; from < whole.length(); from += 20) {
            int[] row = new int[5];
            for (int k = 0; k < 20; k++) {
                int sign = from + k < whole.length() ? whole.charAt(from + k) : random.nextInt(256);
                row[k / 4] |= sign << 24 - k % 4 * 8;
            }
            both("feed", () -> desk.feed(row[0], row[1], row[2], row[3], row[4]), () -> model.feed(row));
        }
        both("end", () -> desk.end(whole.length()) ? 1 : 0, () -> model.end(whole.length()));
    }

    private void change() {
        switch (random.nextInt(12)) {
            case 0:
            case 1: {
                feedBoth(patternText());
                int above = random.nextBoolean() ? NONE : number(model.causes.size());
                int at = number(4);
                int days = random.nextBoolean() ? number(5) : number(61);
                boolean threat = random.nextInt(3) == 0;
                both("cause(" + above + ", " + at + ", " + days + ")", () -> desk.cause(above, at, days, threat),
                        () -> model.cause(above, at, days, threat));
                break;
            }
            case 2:
            case 3: {
                feedBoth(patternText());
                int cause = number(model.causes.size());
                both("pattern(" + cause + ")", () -> desk.pattern(cause), () -> model.pattern(cause));
                break;
            }
            case 4: {
                int n = random.nextInt(3) > 0 ? number(3) : number(61);
                both("days(" + n + ")", () -> desk.days(n), () -> model.days(n));
                break;
            }
            case 5: {
                int at = number(4);
                int n = random.nextBoolean() ? number(3) : number(21);
                both("hours(" + at + ", " + n + ")", () -> {
                    desk.hours(at, n);
                    return 0;
                }, () -> model.hours(at, n));
                break;
            }
            case 6: {
                int letter = number(model.letters.size());
                int point = number(3);
                both("answer(" + letter + ", " + point + ")", () -> desk.answer(letter, point) ? 1 : 0,
                        () -> model.answer(letter, point));
                break;
            }
            case 7: {
                int bits = number(1 << model.causes.size());
                both("template(" + bits + ")", () -> desk.template(bits), () -> model.template(bits));
                break;
            }
            case 8: {
                int[] row = {random.nextInt(), random.nextInt(), 0x61206220, 0, -1};
                both("feed", () -> desk.feed(row[0], row[1], row[2], row[3], row[4]), () -> model.feed(row));
                int n = number(21);
                both("end(" + n + ")", () -> desk.end(n) ? 1 : 0, () -> model.end(n));
                break;
            }
            default: {
                feedBoth(letterText());
                int writer = random.nextInt(3) > 0 ? number(4) : number(50);
                both("letter(" + writer + ")", () -> desk.letter(writer), () -> model.letter(writer));
                break;
            }
        }
        both("fault()", desk::fault, () -> model.fault);
    }

    private void askOne() {
        int letter = number(model.letters.size());
        int point = number(4);
        int what = number(5);
        int cause = number(model.causes.size());
        int day = number(model.today + 1);
        int at = number(4);
        int sum = number(9);
        both("point(" + letter + ", " + point + ", " + what + ")", () -> desk.point(letter, point, what),
                () -> model.point(letter, point, what));
        both("look(" + letter + ", " + what + ")", () -> desk.look(letter, what), () -> model.look(letter, what));
        both("look(" + letter + ", 4)", () -> desk.look(letter, 4), () -> model.look(letter, 4));
        both("late(" + at + ")", () -> desk.late(at), () -> model.late(at));
        both("waits(" + at + ")", () -> desk.waits(at), () -> model.waits(at));
        both("counts(" + cause + ", " + day + ")", () -> desk.counts(cause, day), () -> model.counts(cause, day));
        both("wave(" + cause + ")", () -> desk.wave(cause), () -> model.wave(cause));
        both("count(" + sum + ")", () -> desk.count(sum), () -> model.count(sum));
    }

    private void askAll() {
        for (int letter = 0; letter < model.letters.size(); letter++) {
            int l = letter;
            for (int point = 0; point < model.letters.get(l).points.size(); point++) {
                int p = point;
                for (int w = 0; w <= 4; w++) {
                    int what = w;
                    both("point(" + l + ", " + p + ", " + what + ")", () -> desk.point(l, p, what),
                            () -> model.point(l, p, what));
                }
            }
            both("look(" + l + ", 3)", () -> desk.look(l, 3), () -> model.look(l, 3));
            both("look(" + l + ", 4)", () -> desk.look(l, 4), () -> model.look(l, 4));
        }
        for (int w = 0; w <= 8; w++) {
            int what = w;
            both("count(" + what + ")", () -> desk.count(what), () -> model.count(what));
        }
    }

    /** Short runs have calls left to ask for all, long ones come further. */
    private void runAll() {
        int changing = run % 2 == 0 ? MOST_CALLS / 2 : MOST_CALLS;
        while (calls < changing) {
            change();
            askOne();
        }
        askAll();
    }

    public static void main(String[] args) {
        for (int run = 0; run < RUNS; run++) {
            new ModelTest(run).runAll();
        }
        Desk.close();
    }
}
