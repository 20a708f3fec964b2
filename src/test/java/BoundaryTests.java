import java.util.ArrayList;
import java.util.List;
import java.util.Map;
import java.util.Set;

/**
 * Each sentence of the document that names a boundary case, with a run of calls on a new object of its own.
 *
 * <p>A run is told in rows of calls that are parted by ";". A call stands as "name numbers = answer"; without an
 * answer it only must not throw, and "6 * call" calls it six times. Behind the run it is played again up to each
 * question and each refused call, once with that call and once without: neither may leave a trace.
 */
public final class BoundaryTests {
    private static final Map<String, String> REFUSALS = Map.of(
        "NO_SUCH", "NoSuchElementException",
        "ARGUMENT", "IllegalArgumentException",
        "STATE", "IllegalStateException",
        "NO_ROOM", "UnsupportedOperationException",
        "ARITHMETIC", "ArithmeticException");
    private static final Set<String> QUESTIONS = Set.of(
        "exact", "boxes", "chosen", "where", "bar", "fits", "used", "dimensional", "count");
    private static final int MOST_CALLS = 512;
    private static final List<Row> STATE = stateRows();

    private static int runs = 0;
    private static int wrong = 0;

    /** One call of a run, with the answer that is due, or null if any will do. */
    private record Row(String name, int[] numbers, String due) {
        static Row read(String text) {
            String[] halves = text.split("=");
            String[] words = halves[0].trim().split(" +");
            int[] numbers = new int[words.length - 1];
            for (int i = 0; i < numbers.length; i++) {
                numbers[i] = number(words[i + 1]);
            }
            return new Row(words[0], numbers, halves.length == 2 ? due(halves[1].trim()) : null);
        }

        private static int number(String word) {
            switch (word) {
                case "MAX": return Integer.MAX_VALUE;
                case "MIN": return Integer.MIN_VALUE;
                default: return Integer.parseInt(word);
            }
        }

        private static String due(String word) {
            return REFUSALS.containsKey(word) ? "throws." + REFUSALS.get(word) : word;
        }

        String answerOf(BoxChoice x) {
            try {
                return String.valueOf(call(x));
            } catch (RuntimeException e) {
                return "throws." + e.getClass().getSimpleName();
            }
        }

        private Object call(BoxChoice x) {
            int[] n = numbers;
            switch (name + " " + n.length) {
                case "box 4": return x.box(n[0], n[1], n[2], n[3]);
                case "unit 3": return x.unit(n[0], n[1], n[2]);
                case "group 3": return x.group(n[0], n[1], n[2]);
                case "change 2": return x.change(n[0], n[1]);
                case "slack 1":
                    x.slack(n[0]);
                    return "done";
                case "choose 1": return x.choose(n[0]);
                case "exact 0": return x.exact();
                case "boxes 0": return x.boxes();
                case "chosen 2": return x.chosen(n[0], n[1]);
                case "where 1": return x.where(n[0]);
                case "bar 1": return x.bar(n[0]);
                case "fits 2": return x.fits(n[0], n[1]);
                case "used 1": return x.used(n[0]);
                case "dimensional 2": return x.dimensional(n[0], n[1]);
                case "count 1": return x.count(n[0]);
                default: throw new AssertionError("a test tells no call of the face: " + this);
            }
        }

        boolean isSatisfiedBy(String answer) {
            return due == null ? !answer.startsWith("throws.") : due.equals(answer);
        }

        boolean leavesNoTrace() {
            return QUESTIONS.contains(name) || due != null && due.startsWith("throws.");
        }

        String told() {
            StringBuilder told = new StringBuilder(name);
            for (int number : numbers) {
                told.append(' ').append(number);
            }
            return told.toString();
        }
    }

    private static List<Row> rowsOf(String[] texts) {
        List<Row> rows = new ArrayList<>();
        for (String text : String.join(";", texts).split(";")) {
            String[] parts = text.split("\\*");
            int times = parts.length == 2 ? Integer.parseInt(parts[0].trim()) : 1;
            for (int i = 0; i < times; i++) {
                rows.add(Row.read(parts[parts.length - 1]));
            }
        }
        return rows;
    }

    private static void fail(String sentence, String why) {
        wrong++;
        System.out.println(sentence + ": " + why);
    }

    private static void check(String sentence, String... texts) {
        runs++;
        List<Row> rows = rowsOf(texts);
        if (rows.size() > MOST_CALLS) {
            throw new AssertionError("a run is longer than the document promises: " + sentence);
        }
        BoxChoice x = new BoxChoice();
        for (int i = 0; i < rows.size(); i++) {
            Row row = rows.get(i);
            String answer = row.answerOf(x);
            if (!row.isSatisfiedBy(answer)) {
                fail(sentence, row.told() + " answered " + answer + ", due is "
                    + (row.due() == null ? "no exception" : row.due()));
            }
            if (row.leavesNoTrace() && leavesTrace(rows, i)) {
                fail(sentence, row.told() + " left a trace");
            }
        }
    }

    private static boolean leavesTrace(List<Row> rows, int i) {
        // Nothing is promised of an object that would need more calls to be looked at.
        if (i + 1 + STATE.size() > MOST_CALLS) {
            return false;
        }
        return !stateAfter(rows, i).equals(stateAfter(rows, i + 1));
    }

    private static List<String> stateAfter(List<Row> rows, int number) {
        BoxChoice x = new BoxChoice();
        for (Row row : rows.subList(0, number)) {
            row.answerOf(x);
        }
        List<String> answers = new ArrayList<>();
        for (Row row : STATE) {
            answers.add(row.answerOf(x));
        }
        return answers;
    }

    /** The last calls change the object, but each answers what was there before. */
    private static List<Row> stateRows() {
        List<String> all = new ArrayList<>(List.of("count 0", "count 1", "count 2", "count 3", "count 4", "exact",
            "boxes",
            "used 0", "used 1"));
        for (int i = 0; i < 8; i++) {
            all.add("chosen " + i + " 0");
            all.add("chosen " + i + " 1");
            all.add("chosen " + i + " 3");
            all.add("where " + i);
            all.add("bar " + i);
        }
        for (int box = 0; box < 6; box++) {
            all.add("dimensional " + box + " 1");
            for (int unit = 0; unit < 8; unit++) {
                all.add("fits " + box + " " + unit);
            }
        }
        for (int unit = 0; unit < 8; unit++) {
            all.add("change " + unit + " 0");
            for (int other = 0; other < unit; other++) {
                all.add("group " + unit + " " + other + " 0");
            }
        }
        return rowsOf(all.toArray(new String[0]));
    }

    /** Every two of so many units are told to be free, apart or together. */
    private static String everyTwo(int units, int how) {
        List<String> calls = new ArrayList<>();
        for (int unit = 0; unit < units; unit++) {
            for (int other = unit + 1; other < units; other++) {
                calls.add("group " + unit + " " + other + " " + how);
            }
        }
        return String.join(";", calls);
    }

    private static void termsOfKinds() {
        check("kinds are 0 .. 7: the least", "unit 1 0 0 = 0; unit 1 0 -1 = ARGUMENT; unit 1 0 MIN = ARGUMENT",
            "count 1 = 1");
        check("kinds are 0 .. 7: the greatest", "unit 1 0 7 = 0; unit 1 0 8 = ARGUMENT; unit 1 0 MAX = ARGUMENT",
            "count 1 = 1");
        check("the kinds that a box takes: all of them", "box 1 1 0 255 = 0; box 1 1 0 256 = ARGUMENT",
            "box 1 1 0 MAX = ARGUMENT; count 0 = 1");
        check("the kinds that a box takes: none", "box 1 1 0 0 = 0; box 1 1 0 -1 = ARGUMENT; box 1 1 0 MIN = ARGUMENT",
            "count 0 = 1");
        check("a box that takes no kind takes no unit", "box 1000 1000 0 0; unit 1 0 0; unit 1 0 7",
            "fits 0 0 = false; fits 0 1 = false; bar 0 = 1; bar 1 = 1; choose 6 = -1; choose 0 = -1");
        for (int kind = 0; kind <= 7; kind++) {
            check("bit " + kind + " of a box is kind " + kind,
                "box 9 9 1 " + (1 << kind), "box 9 9 1 " + (255 ^ 1 << kind), "unit 1 1 " + kind,
                "fits 0 0 = true; fits 1 0 = false; choose 6 = 1; chosen 0 0 = 0");
        }
    }

    private static void termsOfBoxes() {
        check("a room 1 .. 1000: the least", "box 1 5 5 1 = 0; box 0 5 5 1 = ARGUMENT; box -1 5 5 1 = ARGUMENT",
            "box MIN 5 5 1 = ARGUMENT; count 0 = 1; dimensional 0 1 = 1");
        check("a room 1 .. 1000: the greatest", "box 1000 5 5 1 = 0; box 1001 5 5 1 = ARGUMENT",
            "box MAX 5 5 1 = ARGUMENT; count 0 = 1; dimensional 0 1 = 1000");
        check("a load 1 .. 1000: the least", "box 5 1 5 1 = 0; box 5 0 5 1 = ARGUMENT; box 5 -1 5 1 = ARGUMENT",
            "box 5 MIN 5 1 = ARGUMENT; count 0 = 1; unit 5 1 0; unit 5 2 0; fits 0 0 = true; fits 0 1 = false");
        check("a load 1 .. 1000: the greatest", "box 5 1000 5 1 = 0; box 5 1001 5 1 = ARGUMENT",
            "box 5 MAX 5 1 = ARGUMENT; count 0 = 1; unit 5 1000 0; fits 0 0 = true");
        check("a cost 0 .. 1000: the least", "box 5 5 0 1 = 0; box 5 5 -1 1 = ARGUMENT; box 5 5 MIN 1 = ARGUMENT",
            "count 0 = 1; unit 5 5 0; choose 6 = 0; count 4 = 0; choose 0 = 0; count 4 = 0");
        check("a cost 0 .. 1000: the greatest", "box 5 5 1000 1 = 0; box 5 5 1001 1 = ARGUMENT",
            "box 5 5 MAX 1 = ARGUMENT; count 0 = 1; unit 5 5 0; choose 6 = 1000; choose 0 = 1000");
        check("as many of a box as are needed: exactly", "box 10 9 1000 1; 6 * unit 10 1 0; choose 6 = 6000",
            "boxes = 6");
        check("as many of a box as are needed: by rule", "box 10 9 1000 1; 8 * unit 10 1 0; choose 6 = 8000",
            "boxes = 8");
    }

    private static void termsOfUnits() {
        check("a size 1 .. 1000: the least", "unit 1 5 0 = 0; unit 0 5 0 = ARGUMENT; unit -1 5 0 = ARGUMENT",
            "unit MIN 5 0 = ARGUMENT; count 1 = 1; box 1 9 1 1; fits 0 0 = true; choose 6 = 1; chosen 0 2 = 1");
        check("a size 1 .. 1000: the greatest", "unit 1000 5 0 = 0; unit 1001 5 0 = ARGUMENT; unit MAX 5 0 = ARGUMENT",
            "count 1 = 1; box 1000 9 1 1; box 999 9 0 1; fits 0 0 = true; fits 1 0 = false; choose 6 = 1",
            "chosen 0 2 = 1000");
        check("a weight 0 .. 1000: the least", "unit 5 0 0 = 0; unit 5 -1 0 = ARGUMENT; unit 5 MIN 0 = ARGUMENT",
            "count 1 = 1; box 9 1 1 1; fits 0 0 = true; choose 6 = 1; chosen 0 3 = 0");
        check("a weight 0 .. 1000: the greatest", "unit 5 1000 0 = 0; unit 5 1001 0 = ARGUMENT",
            "unit 5 MAX 0 = ARGUMENT",
            "count 1 = 1; box 9 1000 1 1; box 9 999 0 1; fits 0 0 = true; fits 1 0 = false; choose 6 = 1",
            "chosen 0 3 = 1000");
    }

    private static void termsOfApartAndTogether() {
        check("neither at first", "8 * unit 1 1 0; count 2 = 0; count 3 = 0; group 0 7 0 = 0; group 7 0 0 = 0",
            "box 8 8 1 1; bar 0 = 0; choose 6 = 1; boxes = 1");
        check("a unit that comes later is neither", "2 * unit 1 1 0; group 0 1 2; unit 1 1 0; group 0 2 0 = 0",
            "group 1 2 0 = 0; count 3 = 1");
        check("told anew: apart, then together", "2 * unit 5 5 0; box 10 10 1 1; group 0 1 1; choose 6 = 2",
            "group 0 1 2 = 1; choose 6 = 1; choose 0 = 1; count 2 = 0; count 3 = 1; group 0 1 2 = 2");
        check("told anew: together, then apart", "2 * unit 5 5 0; box 10 10 1 1; group 0 1 2; choose 6 = 1",
            "group 0 1 1 = 2; choose 6 = 2; choose 0 = 2; count 2 = 1; count 3 = 0; group 0 1 1 = 1; bar 0 = 0");
        check("told anew: apart, then free", "2 * unit 5 5 0; box 10 10 1 1; group 0 1 1; group 0 1 0 = 1",
            "group 0 1 0 = 0; choose 6 = 1; choose 0 = 1; count 2 = 0");
        check("told anew: together, then free", "2 * unit 5 5 0; box 5 5 1 1; group 0 1 2; choose 6 = -1",
            "group 0 1 0 = 2; group 0 1 0 = 0; choose 6 = 2; choose 0 = 2; count 3 = 0");
        check("told anew the other way round", "8 * unit 5 5 0; group 0 7 1 = 0; group 7 0 2 = 1; group 0 7 0 = 2",
            "group 7 0 1 = 0; count 2 = 1; count 3 = 0");
    }

    private static void termsOfAFittingSet() {
        check("sizes together as large as the room", "box 10 9 1 1; unit 4 1 0; unit 6 1 0; choose 6 = 1; choose 0 = 1",
            "unit 1 1 0; choose 6 = 2; choose 0 = 2");
        check("sizes together one more than the room", "box 10 9 1 1; unit 5 1 0; unit 6 1 0; choose 6 = 2",
            "choose 0 = 2");
        check("the slack is 0 at first", "box 10 9 1 1; unit 10 1 0; fits 0 0 = true; bar 0 = 0; choose 6 = 1",
            "choose 0 = 1");
        check("sizes together as large as the room less the slack", "box 12 9 1 1; unit 5 1 0; unit 5 1 0",
            "slack 2; choose 6 = 1; choose 0 = 1; slack 3; choose 6 = 2; choose 0 = 2");
        check("a slack as large as the room leaves none", "box 10 9 1 1; unit 1 1 0; slack 9; fits 0 0 = true",
            "choose 6 = 1; slack 10; fits 0 0 = false; bar 0 = 2; choose 6 = -1; choose 0 = -1");
        check("a slack larger than the room leaves none", "box 10 9 1 1; unit 1 1 0; slack 11; fits 0 0 = false",
            "bar 0 = 2; slack 1000; fits 0 0 = false; bar 0 = 2; choose 6 = -1; choose 0 = -1");
        check("weights together as heavy as the load", "box 10 9 1 1; unit 1 4 0; unit 1 5 0; choose 6 = 1",
            "choose 0 = 1; unit 1 0 0; choose 6 = 1; choose 0 = 1");
        check("weights together one more than the load", "box 10 9 1 1; unit 1 4 0; unit 1 6 0; choose 6 = 2",
            "choose 0 = 2");
        check("the slack leaves the load as it is", "box 20 10 1 1; unit 5 10 0; slack 10; fits 0 0 = true",
            "choose 6 = 1");
        check("eight units of no weight", "box 8 1 1 1; 8 * unit 1 0 0; choose 6 = 1; boxes = 1; chosen 0 3 = 0");
        check("it takes the kinds of all: one is missing", "box 10 10 1 129; unit 1 1 0; unit 1 1 7; choose 6 = 1",
            "choose 0 = 1; unit 1 1 6; choose 6 = -1; choose 0 = -1; box 10 10 1 64; choose 6 = 2; choose 0 = 2");
        check("no two of them are apart: the first and the last", "box 100 100 1 1; 6 * unit 1 1 0; choose 6 = 1",
            "group 0 5 1; choose 6 = 2; chosen 0 1 = 1; chosen 1 1 = 62; choose 0 = 2; chosen 0 1 = 31",
            "chosen 1 1 = 32");
        check("no two of them are apart: all", "box 100 100 1 1; 6 * unit 1 1 0", everyTwo(6, 1),
            "choose 6 = 6; boxes = 6; choose 0 = 6; boxes = 6");
        check("each that is together with one is in it: the first and the last", "box 2 9 1 1; 6 * unit 1 1 0",
            "group 5 0 2; choose 6 = 3; chosen 0 1 = 33; chosen 1 1 = 6; chosen 2 1 = 24",
            "choose 0 = 3; chosen 0 1 = 33; chosen 1 1 = 6; chosen 2 1 = 24");
        check("each that is together with one is in it: all", "box 6 6 1 1; box 5 5 0 1",
            "6 * unit 1 1 0", everyTwo(6, 2),
            "choose 6 = 1; chosen 0 1 = 63; choose 0 = 1; chosen 0 1 = 63");
        check("each that is together with one is in it: there is no such box", "box 5 6 0 1",
            "6 * unit 1 1 0", everyTwo(6, 2),
            "choose 6 = -1; choose 0 = -1");
    }

    private static void termsOfAChoice() {
        check("no units and no boxes: a choice without boxes", "choose 6 = 0; boxes = 0; exact = true; count 4 = 0",
            "chosen 0 0 = NO_SUCH");
        check("no units: a choice without boxes", "box 1 1 0 1; choose 0 = 0; boxes = 0; exact = true; count 4 = 0",
            "chosen 0 0 = NO_SUCH");
        check("no boxes: no choice", "unit 1 0 0; choose 6 = -1; boxes = -1; choose 0 = -1; boxes = -1; exact = false");
        check("all units: one that fits nothing leaves no choice", "box 9 9 1 1; 5 * unit 1 1 0; unit 10 1 0",
            "choose 6 = -1; boxes = -1; choose 5 = -1; boxes = -1");
        check("each box with at least one unit, even at no cost", "6 * box 9 9 0 1; unit 1 1 0; choose 6 = 0",
            "boxes = 1; chosen 0 0 = 0; choose 0 = 0; boxes = 1");
        check("the one with unit 0 first: exactly", "box 9 9 1 1; box 9 9 1 2; 3 * unit 1 1 1; unit 1 1 0",
            "choose 6 = 2; chosen 0 0 = 1; chosen 0 1 = 7; chosen 1 0 = 0; chosen 1 1 = 8; where 0 = 0; where 3 = 1");
        check("then the one with the least unit that is in none before: exactly", "box 9 9 1 1; 6 * unit 1 1 0",
            "group 0 5 2; group 1 4 2; group 2 3 2; group 0 1 1; group 1 2 1; group 0 2 1; choose 6 = 3",
            "chosen 0 1 = 33; chosen 1 1 = 18; chosen 2 1 = 12; where 5 = 0; where 4 = 1; where 3 = 2");
        check("then the one with the least unit that is in none before: by rule", "box 9 9 1 1; 8 * unit 1 1 0",
            "group 0 7 2; group 1 6 2; group 2 5 2; group 0 1 1; group 1 2 1; group 0 2 1; choose 6 = 3",
            "chosen 0 1 = 153; chosen 1 1 = 66; chosen 2 1 = 36; where 7 = 0; where 6 = 1; where 5 = 2; where 4 = 0");
    }

    private static void termsOfExact() {
        for (int most = 0; most <= 6; most++) {
            String units = most == 0 ? "" : most + " * unit 1 1 0;";
            check("exact for " + most + " units", "box 9 9 1 1;" + units + "choose " + most, "exact = true",
                "unit 1 1 0; choose " + most, "exact = false");
        }
        check("the least cost, though with more boxes", "box 20 9 21 1; box 10 9 10 1; 2 * unit 10 1 0",
            "choose 6 = 20; boxes = 2; chosen 0 0 = 1; chosen 1 0 = 1");
        check("of equal cost the fewest boxes", "box 10 9 10 1; box 20 9 20 1; 2 * unit 10 1 0; choose 6 = 20",
            "boxes = 1; chosen 0 0 = 1");
        check("the least cost, though with one box", "box 10 9 10 1; box 20 9 19 1; 2 * unit 10 1 0; choose 6 = 19",
            "boxes = 1");
        check("of equal ones the first: by the number in the catalogue", "6 * box 9 9 3 1; unit 1 1 0; choose 6 = 3",
            "chosen 0 0 = 0");
        check("of equal ones the first: the number counts before the set", "box 20 9 5 1; box 10 9 4 1",
            "3 * unit 10 1 0; choose 6 = 9; chosen 0 0 = 0; chosen 0 1 = 3; chosen 1 0 = 1; chosen 1 1 = 4");
        check("of equal ones the first: the number, and the lesser set with it", "box 10 9 4 1; box 20 9 5 1",
            "3 * unit 10 1 0; choose 6 = 9; chosen 0 0 = 0; chosen 0 1 = 1; chosen 1 0 = 1; chosen 1 1 = 6");
        check("of equal ones the first: by the set of the first box", "box 20 9 5 1; 4 * unit 10 1 0; choose 6 = 10",
            "chosen 0 1 = 3; chosen 1 1 = 12; group 0 1 1; choose 6 = 10; chosen 0 1 = 5; chosen 1 1 = 10",
            "group 0 2 1; choose 6 = 10; chosen 0 1 = 9; chosen 1 1 = 6");
        check("of equal ones the first: by the set of the second box", "box 20 9 5 1; 4 * unit 10 1 0",
            "group 0 1 1; group 0 2 1; group 0 3 1; choose 6 = 15; chosen 0 1 = 1; chosen 1 1 = 2; chosen 2 1 = 12",
            "group 2 3 1; choose 6 = 15; chosen 0 1 = 1; chosen 1 1 = 6; chosen 2 1 = 8");
        check("of equal ones the first: by the number of the second box", "box 9 9 3 1; 2 * box 9 9 3 2; unit 1 1 0",
            "unit 1 1 1; choose 6 = 6; chosen 0 0 = 0; chosen 1 0 = 1");
        check("exactly at the greatest cost", "6 * box 1000 1000 1000 128; 6 * unit 1000 1000 7; choose 6 = 6000",
            "boxes = 6");
    }

    private static void termsOfTheRule() {
        check("to the first box so far: of two that fit", "box 10 99 1 1; 2 * unit 6 1 0; unit 4 1 0; choose 2 = 2",
            "chosen 0 1 = 5; chosen 1 1 = 2");
        check("that still fits: one too large for the first", "box 10 99 1 1; unit 7 1 0; unit 6 1 0; unit 4 1 0",
            "choose 2 = 2; chosen 0 1 = 1; chosen 1 1 = 6");
        check("that still fits: one too heavy for the first", "box 99 10 1 1; unit 1 7 0; unit 1 6 0; unit 1 4 0",
            "choose 2 = 2; chosen 0 1 = 1; chosen 1 1 = 6");
        check("that still fits: a kind that the first does not take", "box 9 9 1 1; box 9 9 2 2; unit 1 1 0",
            "unit 1 1 1; unit 1 1 1; choose 2 = 3; chosen 0 1 = 1; chosen 1 1 = 6");
        check("that still fits: apart from one in the first", "box 9 9 1 1; 3 * unit 1 1 0; group 0 1 1; group 2 0 1",
            "choose 2 = 2; chosen 0 1 = 1; chosen 1 1 = 6");
        check("that still fits: the slack counts", "box 12 99 1 1; slack 2; unit 7 1 0; unit 6 1 0; unit 4 1 0",
            "choose 2 = 2; chosen 0 1 = 1; chosen 1 1 = 6");
        check("a new one at the least cost", "box 9 9 3 1; box 9 9 2 1; box 9 9 4 1; unit 1 1 0; choose 0 = 2",
            "chosen 0 0 = 1");
        check("a new one, of equal ones the lowest number", "box 9 9 3 1; 5 * box 9 9 2 1; unit 1 1 0; choose 0 = 2",
            "chosen 0 0 = 1");
        check("a new one of those that fit", "box 9 9 0 1; box 10 8 0 1; box 10 9 0 2; box 10 9 5 1; unit 10 9 0",
            "choose 0 = 5; chosen 0 0 = 3");
        check("a new one comes behind", "box 5 9 1 1; 3 * unit 5 1 0; choose 0 = 3; chosen 0 1 = 1; chosen 1 1 = 2",
            "chosen 2 1 = 4");
        check("with all that are together with it, directly", "box 20 9 2 1; box 10 9 1 1; 3 * unit 10 1 0",
            "group 0 2 2; choose 2 = 3; chosen 0 1 = 5; chosen 0 0 = 0; chosen 1 1 = 2; chosen 1 0 = 1");
        check("with all that are together with it, by others", "box 80 9 2 1; 8 * unit 10 1 0",
            "group 0 7 2; group 7 1 2; group 1 6 2; group 6 2 2; group 2 5 2; group 5 3 2; group 3 4 2",
            "choose 6 = 2; boxes = 1; chosen 0 1 = 255; slack 1; choose 6 = -1");
        check("all together come to a box so far only if all fit", "box 20 9 1 1; 3 * unit 10 1 0; group 1 2 2",
            "choose 2 = 2; chosen 0 1 = 1; chosen 1 1 = 6");
        check("all together come to a box so far if all just fit", "box 30 9 1 1; 3 * unit 10 1 0; group 1 2 2",
            "choose 2 = 1; chosen 0 1 = 7");
        check("if none fits there is no choice: the first unit", "box 9 9 1 1; unit 10 1 0; unit 1 1 0",
            "choose 1 = -1; boxes = -1");
        check("if none fits there is no choice: the last unit", "box 9 9 1 1; 7 * unit 9 1 0; unit 10 1 0",
            "choose 6 = -1; boxes = -1; where 0 = -1; chosen 0 0 = NO_SUCH; count 4 = -1");
        check("if none fits there is no choice: two together are apart by others", "box 99 99 1 1; 3 * unit 1 1 0",
            "group 0 1 2; group 1 2 2; group 0 2 1; choose 2 = -1; choose 3 = -1; boxes = -1");
        check("the rule does not look ahead", "box 10 9 1 1; box 30 9 2 1; unit 10 1 0; unit 20 1 0; choose 1 = 3",
            "choose 2 = 2");
    }

    private static void anObjectIsUsedForAllItsCalls() {
        check("at most 512 calls: the last ones answer as the first", "6 * box 1000 1000 1000 255",
            "8 * unit 1000 1000 7",
            everyTwo(8, 1), "460 * change 7 1000; choose 6 = 8000; change 7 999 = 1000; chosen 7 3 = 999; bar 7 = 0",
            "where 7 = 7; used 0 = 1; box 1 1 1 1 = NO_ROOM; unit 1 1 1 = NO_ROOM; count 2 = 28; count 4 = 8000");
    }

    private static void aNewObject() {
        check("1: no boxes", "count 0 = 0; fits 0 0 = NO_SUCH; dimensional 0 1 = NO_SUCH; dimensional -1 1 = NO_SUCH");
        check("1: no units", "count 1 = 0; where 0 = NO_SUCH; bar 0 = NO_SUCH; change 0 1 = NO_SUCH",
            "group 0 1 1 = NO_SUCH; where -1 = NO_SUCH; bar -1 = NO_SUCH");
        check("1: no pairs", "count 2 = 0; count 3 = 0");
        check("1: no choice", "boxes = -1; exact = false; count 4 = -1; used 0 = STATE; used 1 = STATE",
            "chosen 0 0 = NO_SUCH");
        check("1: the first numbers are 0", "box 1 1 1 1 = 0; unit 1 1 1 = 0");
    }

    private static void box() {
        check("2: numbers as they come, at most 6", "box 10 1 1 1 = 0; box 20 1 1 1 = 1; box 30 1 1 1 = 2",
            "box 40 1 1 1 = 3",
            "box 50 1 1 1 = 4; box 60 1 1 1 = 5; box 70 1 1 1 = NO_ROOM; box 70 1 1 1 = NO_ROOM; count 0 = 6",
            "dimensional 0 1 = 10; dimensional 5 1 = 60; dimensional 6 1 = NO_SUCH");
        check("2: a refused box takes no number", "box 0 1 1 1 = ARGUMENT; box 1 1 1 1 = 0; box 1 1 1 256 = ARGUMENT",
            "box 1 1 1 1 = 1");
        check("2: no room, and a wrong room first", "6 * box 1 1 1 1; box 0 1 1 1 = ARGUMENT",
            "box 1001 1 1 1 = ARGUMENT");
        check("2: no room, and a wrong load first", "6 * box 1 1 1 1; box 1 0 1 1 = ARGUMENT",
            "box 1 1001 1 1 = ARGUMENT");
        check("2: no room, and a wrong cost first", "6 * box 1 1 1 1; box 1 1 -1 1 = ARGUMENT",
            "box 1 1 1001 1 = ARGUMENT");
        check("2: no room, and wrong kinds first", "6 * box 1 1 1 1; box 1 1 1 -1 = ARGUMENT",
            "box 1 1 1 256 = ARGUMENT");
        check("2: full boxes leave room for units", "6 * box 1 1 1 1; unit 1 1 1 = 0");
        check("2: a box that comes behind a choice leaves it", "box 9 9 5 1; unit 1 1 0; choose 6 = 5; box 9 9 1 1 = 1",
            "chosen 0 0 = 0; count 4 = 5; choose 6 = 1; chosen 0 0 = 1");
    }

    private static void unit() {
        check("3: numbers as they come, at most 8", "unit 1 10 0 = 0; unit 1 20 0 = 1; unit 1 30 0 = 2",
            "unit 1 40 0 = 3",
            "unit 1 50 0 = 4; unit 1 60 0 = 5; unit 1 70 0 = 6; unit 1 80 0 = 7; unit 1 90 0 = NO_ROOM",
            "unit 1 90 0 = NO_ROOM; count 1 = 8; change 0 1 = 10; change 7 1 = 80; change 8 1 = NO_SUCH");
        check("3: a refused unit takes no number", "unit 0 1 1 = ARGUMENT; unit 1 1 1 = 0; unit 1 1 8 = ARGUMENT",
            "unit 1 1 1 = 1");
        check("3: no room, and a wrong size first", "8 * unit 1 1 1; unit 0 1 1 = ARGUMENT; unit 1001 1 1 = ARGUMENT");
        check("3: no room, and a wrong weight first", "8 * unit 1 1 1; unit 1 -1 1 = ARGUMENT",
            "unit 1 1001 1 = ARGUMENT");
        check("3: no room, and a wrong kind first", "8 * unit 1 1 1; unit 1 1 -1 = ARGUMENT; unit 1 1 8 = ARGUMENT");
        check("3: full units leave room for boxes", "8 * unit 1 1 1; box 1 1 1 1 = 0");
        check("3: a unit that comes behind a choice leaves it", "box 9 9 5 1; unit 1 1 0; choose 6 = 5; unit 9 9 7 = 1",
            "boxes = 1; chosen 0 1 = 1; chosen 0 2 = 1; chosen 0 3 = 1; used 0 = 1; used 1 = 9; exact = true");
    }

    private static void group() {
        check("4: which it was: free", "2 * unit 1 1 0; group 0 1 0 = 0; group 0 1 1 = 0");
        check("4: which it was: apart", "2 * unit 1 1 0; group 0 1 1; group 0 1 1 = 1; group 1 0 2 = 1");
        check("4: which it was: together", "2 * unit 1 1 0; group 0 1 2; group 0 1 2 = 2; group 1 0 0 = 2");
        check("4: together by others is free of one another", "3 * unit 1 1 0; group 0 1 2; group 1 2 2",
            "group 0 2 0 = 0");
        check("4: another how: below", "2 * unit 1 1 0; group 0 1 2; group 0 1 -1 = ARGUMENT",
            "group 0 1 MIN = ARGUMENT; count 3 = 1");
        check("4: another how: above", "2 * unit 1 1 0; group 0 1 1; group 0 1 3 = ARGUMENT",
            "group 0 1 MAX = ARGUMENT; count 2 = 1");
        check("4: the same unit", "8 * unit 1 1 0; group 0 0 0 = ARGUMENT; group 0 0 1 = ARGUMENT",
            "group 7 7 2 = ARGUMENT; group 7 7 3 = ARGUMENT; count 2 = 0; count 3 = 0");
        check("4: no such unit, the first", "2 * unit 1 1 0; group 2 0 1 = NO_SUCH; group -1 0 1 = NO_SUCH",
            "group MAX 0 1 = NO_SUCH; group MIN 0 1 = NO_SUCH; group 32 1 1 = NO_SUCH; count 2 = 0");
        check("4: no such unit, the second", "2 * unit 1 1 0; group 0 2 1 = NO_SUCH; group 0 -1 1 = NO_SUCH",
            "group 0 MAX 1 = NO_SUCH; group 0 MIN 1 = NO_SUCH; group 1 32 1 = NO_SUCH; count 2 = 0");
        check("4: one beyond as many units as there may be", "8 * unit 1 1 0; group 7 8 1 = NO_SUCH",
            "group 8 7 1 = NO_SUCH; group 7 6 1 = 0; group 6 7 0 = 1");
        check("4: no such unit comes before another how", "2 * unit 1 1 0; group 2 0 3 = NO_SUCH",
            "group 0 2 -1 = NO_SUCH");
        check("4: no such unit comes before the same unit", "2 * unit 1 1 0; group 2 2 1 = NO_SUCH",
            "group -1 -1 3 = NO_SUCH");
        check("4: a group behind a choice leaves it", "box 9 9 1 1; 2 * unit 1 1 0; choose 6 = 1; group 0 1 1",
            "boxes = 1; where 1 = 0");
    }

    private static void change() {
        check("5: the least weight", "unit 1 7 0; change 0 0 = 7; change 0 -1 = ARGUMENT; change 0 MIN = ARGUMENT",
            "change 0 5 = 0");
        check("5: the greatest weight", "unit 1 7 0; change 0 1000 = 7; change 0 1001 = ARGUMENT",
            "change 0 MAX = ARGUMENT; change 0 5 = 1000");
        check("5: the same weight", "unit 1 7 0; change 0 7 = 7; change 0 7 = 7");
        check("5: no such unit", "unit 1 7 0; change 1 5 = NO_SUCH; change -1 5 = NO_SUCH; change MAX 5 = NO_SUCH",
            "change MIN 5 = NO_SUCH; change 0 7 = 7");
        check("5: no units", "change 0 0 = NO_SUCH");
        check("5: one beyond as many units as there may be", "8 * unit 1 7 0; change 7 8 = 7; change 8 8 = NO_SUCH");
        check("5: no such unit comes before a wrong weight", "unit 1 7 0; change 1 1001 = NO_SUCH",
            "change -1 -1 = NO_SUCH");
        check("5: another weight up to the load", "box 9 20 1 1; unit 1 1 0; change 0 20; fits 0 0 = true; bar 0 = 0",
            "choose 6 = 1; change 0 21; fits 0 0 = false; bar 0 = 3; choose 6 = -1; choose 0 = -1");
        check("5: another weight behind a choice leaves it", "box 9 9 3 1; unit 1 1 0; choose 6 = 3; change 0 1000",
            "count 4 = 3; boxes = 1; where 0 = 0; exact = true; chosen 0 3 = 1000");
    }

    private static void slack() {
        check("6: the least", "box 5 5 1 1; unit 5 5 0; slack 1; fits 0 0 = false; slack 0 = done; fits 0 0 = true");
        check("6: below the least", "box 5 5 1 1; unit 4 5 0; slack 1; slack -1 = ARGUMENT; slack MIN = ARGUMENT",
            "fits 0 0 = true; slack 2; slack -1 = ARGUMENT; fits 0 0 = false");
        check("6: the greatest", "box 1000 5 1 1; unit 1 5 0; slack 999 = done; fits 0 0 = true; bar 0 = 0",
            "choose 6 = 1; slack 1000 = done; fits 0 0 = false; bar 0 = 2; choose 6 = -1");
        check("6: above the greatest", "box 5 5 1 1; unit 5 5 0; slack 1001 = ARGUMENT; slack MAX = ARGUMENT",
            "fits 0 0 = true");
        check("6: the latest counts", "box 9 5 1 1; unit 5 5 0; slack 3; slack 4; fits 0 0 = true; slack 5",
            "fits 0 0 = false");
        check("6: a slack behind a choice leaves it", "box 9 9 3 1; unit 9 1 0; choose 6 = 3; slack 1000",
            "count 4 = 3; boxes = 1; where 0 = 0; exact = true; chosen 0 2 = 9; used 0 = 1; used 1 = 1");
    }

    private static void choose() {
        check("7: for at least 0 units", "choose 0 = 0; choose -1 = ARGUMENT; choose MIN = ARGUMENT");
        check("7: for at most 6 units", "choose 6 = 0; choose 7 = ARGUMENT; choose MAX = ARGUMENT");
        check("7: for 8 units, as many as there may be", "8 * unit 1 1 0; box 1 1 1 1; choose 8 = ARGUMENT",
            "choose 6 = 8");
        check("7: a refused one leaves the choice", "box 9 9 3 1; unit 1 1 0; choose 6 = 3; choose 7 = ARGUMENT",
            "choose -1 = ARGUMENT",
            "boxes = 1; exact = true; count 4 = 3; where 0 = 0; choose 0 = 3; choose 7 = ARGUMENT; exact = false",
            "boxes = 1");
        check("7: a refused one makes no choice", "choose 7 = ARGUMENT; boxes = -1; choose -1 = ARGUMENT; boxes = -1");
        check("7: none any more: exactly", "box 9 9 3 1; unit 1 1 0; choose 6 = 3; unit 10 1 0; choose 6 = -1",
            "boxes = -1",
            "exact = false; count 4 = -1; where 0 = -1; where 1 = -1; used 0 = STATE; chosen 0 0 = NO_SUCH");
        check("7: none any more: by rule", "box 9 9 3 1; unit 1 1 0; choose 0 = 3; unit 10 1 0; choose 0 = -1",
            "boxes = -1",
            "exact = false; count 4 = -1; where 0 = -1; where 1 = -1; used 0 = STATE; chosen 0 0 = NO_SUCH");
        check("7: none, where there was a choice without boxes", "choose 6 = 0; unit 1 1 0; choose 6 = -1",
            "boxes = -1; used 0 = STATE");
        check("7: again a choice where there was none", "unit 1 1 0; choose 6 = -1; box 9 9 3 1; choose 6 = 3",
            "boxes = 1; exact = true");
        check("7: a choice with fewer boxes than before", "box 10 99 3 1; 8 * unit 10 1 0; choose 6 = 24",
            "box 80 99 4 1",
            "box 80 99 2 1; choose 6 = 2; boxes = 1; chosen 0 1 = 255; chosen 1 1 = NO_SUCH; where 7 = 0; count 4 = 2");
        check("7: the same choice again", "box 9 9 3 1; unit 1 1 0; choose 6 = 3; choose 6 = 3; choose 1 = 3",
            "boxes = 1; count 4 = 3");
    }

    private static void exact() {
        check("8: no choice", "exact = false");
        check("8: a choice without boxes", "choose 0 = 0; exact = true");
        check("8: made exactly", "box 9 9 1 1; 6 * unit 1 1 0; choose 6 = 1; exact = true");
        check("8: made by rule", "box 9 9 1 1; 7 * unit 1 1 0; choose 6 = 1; exact = false");
        check("8: made by rule where it was exact", "box 9 9 1 1; unit 1 1 0; choose 1 = 1; exact = true",
            "choose 0 = 1; exact = false; choose 1 = 1; exact = true");
        check("8: no choice exactly", "unit 1 1 0; choose 6 = -1; exact = false");
        check("8: units that come behind leave it", "box 9 9 1 1; unit 1 1 0; choose 1 = 1; 7 * unit 1 1 0",
            "exact = true");
    }

    private static void boxes() {
        check("9: without a choice", "boxes = -1; box 9 9 1 1; unit 1 1 0; boxes = -1");
        check("9: without boxes", "choose 6 = 0; boxes = 0");
        check("9: one", "box 9 9 1 1; 8 * unit 1 1 0; choose 6 = 1; boxes = 1");
        check("9: as many as units exactly", "box 1 9 1 1; 6 * unit 1 1 0; choose 6 = 6; boxes = 6");
        check("9: as many as there may be units", "box 1 9 1 1; 8 * unit 1 1 0; choose 6 = 8; boxes = 8");
        check("9: no choice any more", "box 1 9 1 1; unit 1 1 0; choose 6 = 1; slack 1; choose 6 = -1; boxes = -1");
    }

    private static void chosen() {
        String two = "box 5 9 1 2; box 10 9 2 1; unit 4 3 0; unit 6 2 0; unit 5 4 1; choose 6 = 3";
        check("10: 0, its number in the catalogue", two, "chosen 0 0 = 1; chosen 1 0 = 0");
        check("10: 1, its units as bits", two, "chosen 0 1 = 3; chosen 1 1 = 4");
        check("10: 2, their sizes together", two, "chosen 0 2 = 10; chosen 1 2 = 5");
        check("10: 3, their weights together", two, "chosen 0 3 = 5; chosen 1 3 = 4");
        check("10: as they are now", two, "change 0 1000; change 1 1000; change 2 0; chosen 0 3 = 2000",
            "chosen 1 3 = 0");
        check("10: no such box: below", two, "chosen -1 0 = NO_SUCH; chosen MIN 0 = NO_SUCH");
        check("10: no such box: above", two, "chosen 1 0 = 0; chosen 2 0 = NO_SUCH; chosen MAX 0 = NO_SUCH");
        check("10: no such box: one beyond as many as there may be", "box 1 9 1 1; 8 * unit 1 1 0; choose 6 = 8",
            "chosen 7 1 = 128; chosen 8 1 = NO_SUCH");
        check("10: no such box: no choice", "chosen 0 0 = NO_SUCH; box 9 9 1 1; unit 1 1 0; chosen 0 0 = NO_SUCH");
        check("10: no such box: no choice any more", two, "slack 10; choose 6 = -1; chosen 0 0 = NO_SUCH",
            "chosen 1 1 = NO_SUCH");
        check("10: no such box: a choice without boxes", "box 9 9 1 1; choose 6 = 0; chosen 0 0 = NO_SUCH",
            "chosen 0 3 = NO_SUCH");
        check("10: no such what: below", two, "chosen 0 -1 = ARGUMENT; chosen 1 MIN = ARGUMENT");
        check("10: no such what: above", two, "chosen 0 4 = ARGUMENT; chosen 1 MAX = ARGUMENT");
        check("10: no such box comes before no such what", two, "chosen 2 4 = NO_SUCH; chosen -1 -1 = NO_SUCH");
        check("10: without a choice no such box comes before no such what", "chosen 0 4 = NO_SUCH; choose 6",
            "chosen 0 -1 = NO_SUCH");
        check("10: the greatest sums", "box 1000 1000 1 1; 8 * unit 125 125 0; choose 6 = 1; chosen 0 2 = 1000",
            "chosen 0 3 = 1000; change 0 1000; change 1 1000; change 2 1000; change 3 1000; change 4 1000",
            "change 5 1000; change 6 1000; change 7 1000; chosen 0 3 = 8000");
    }

    private static void where() {
        check("11: without a choice", "unit 1 1 0; where 0 = -1; box 9 9 1 1; where 0 = -1");
        check("11: without a choice any more", "unit 1 1 0; box 9 9 1 1; choose 6 = 1; where 0 = 0; slack 9",
            "choose 6 = -1; where 0 = -1");
        check("11: behind the choice", "box 9 9 1 1; unit 1 1 0; choose 6 = 1; unit 1 1 0; where 0 = 0; where 1 = -1");
        check("11: behind a choice without boxes", "choose 6 = 0; unit 1 1 0; where 0 = -1");
        check("11: behind no more once it is chosen anew", "box 9 9 1 1; choose 6 = 0; unit 1 1 0; where 0 = -1",
            "choose 6 = 1; where 0 = 0");
        check("11: the first and the last", "box 1 9 1 1; 8 * unit 1 1 0; choose 6 = 8; where 0 = 0; where 7 = 7");
        check("11: no such unit", "box 9 9 1 1; unit 1 1 0; choose 6 = 1; where 1 = NO_SUCH; where -1 = NO_SUCH",
            "where 32 = NO_SUCH; where MAX = NO_SUCH; where MIN = NO_SUCH");
        check("11: no such unit and no choice", "where 0 = NO_SUCH; unit 1 1 0; where 1 = NO_SUCH");
        check("11: one beyond as many units as there may be", "8 * unit 1 1 0; where 7 = -1; where 8 = NO_SUCH");
    }

    private static void bar() {
        check("12: no boxes", "unit 1 0 0; bar 0 = 1");
        check("12: none takes its kind", "box 99 99 1 253; unit 1 1 1; bar 0 = 1; box 99 99 1 2; bar 0 = 0");
        check("12: none takes all their kinds", "box 99 99 1 1; box 99 99 1 2; unit 1 1 0; unit 1 1 1; bar 0 = 0",
            "bar 1 = 0; group 0 1 2; bar 0 = 1; bar 1 = 1; box 99 99 1 3; bar 0 = 0; bar 1 = 0");
        check("12: none has the room", "box 9 99 1 1; unit 10 1 0; bar 0 = 2; box 10 99 1 1; bar 0 = 0");
        check("12: none has the room for all", "box 9 99 1 1; 2 * unit 5 1 0; bar 0 = 0; group 0 1 2; bar 0 = 2",
            "bar 1 = 2; box 10 99 1 1; bar 0 = 0; bar 1 = 0");
        check("12: none has the room less the slack", "box 10 99 1 1; unit 9 1 0; slack 1; bar 0 = 0; slack 2",
            "bar 0 = 2");
        check("12: none the load", "box 99 9 1 1; unit 1 10 0; bar 0 = 3; box 99 10 1 1; bar 0 = 0");
        check("12: none the load for all", "box 99 9 1 1; 2 * unit 1 5 0; bar 0 = 0; group 0 1 2; bar 0 = 3; bar 1 = 3",
            "box 99 10 1 1; bar 0 = 0; bar 1 = 0");
        check("12: two of them are apart", "box 99 99 1 1; 3 * unit 1 1 0; group 0 1 2; group 1 2 2; bar 0 = 0",
            "group 0 2 1; bar 0 = 4; bar 1 = 4; bar 2 = 4; group 0 2 0; bar 0 = 0");
        check("12: apart from one that is not with it bars nothing", "box 99 99 1 1; 3 * unit 1 1 0; group 0 1 2",
            "group 0 2 1; bar 0 = 0; bar 1 = 0; bar 2 = 0");
        check("12: with all that are together by others", "box 7 99 1 1; 8 * unit 1 1 0; group 0 7 2; group 7 1 2",
            "group 1 6 2",
            "group 6 2 2; group 2 5 2; group 5 3 2; bar 0 = 0; group 3 4 2; bar 0 = 2; bar 4 = 2; bar 7 = 2",
            "group 6 1 0; bar 0 = 0");
        check("12: the first thing: kinds before room", "box 1 99 1 1; unit 5 1 1; bar 0 = 1");
        check("12: the first thing: kinds before load", "box 99 1 1 1; unit 5 9 1; bar 0 = 1");
        check("12: the first thing: room before load", "box 1 1 1 1; unit 5 9 0; bar 0 = 2");
        check("12: the first thing: kinds before apart", "box 99 99 1 2; 3 * unit 1 1 0; group 0 1 2; group 1 2 2",
            "group 0 2 1; bar 0 = 1");
        check("12: the first thing: room before apart", "box 2 99 1 1; 3 * unit 1 1 0; group 0 1 2; group 1 2 2",
            "group 0 2 1; bar 0 = 2");
        check("12: the first thing: load before apart", "box 99 2 1 1; 3 * unit 1 1 0; group 0 1 2; group 1 2 2",
            "group 0 2 1; bar 0 = 3");
        check("12: the room is asked of the boxes that take the kinds", "box 99 99 1 2; box 4 99 1 1; unit 5 1 0",
            "bar 0 = 2");
        check("12: the load is asked of the boxes that take the kinds", "box 99 99 1 2; box 99 4 1 1; unit 1 5 0",
            "bar 0 = 3");
        check("12: the load is asked of the boxes that have the room", "box 4 99 1 1; box 99 4 1 1; unit 5 5 0",
            "bar 0 = 3");
        check("12: one box that is left is enough", "box 4 9 1 1; box 9 4 1 1; box 9 9 1 2; 2 * box 4 4 1 2",
            "box 5 5 1 1; unit 5 5 0; bar 0 = 0");
        check("12: no such unit", "unit 1 1 0; bar 1 = NO_SUCH; bar -1 = NO_SUCH; bar MAX = NO_SUCH",
            "bar MIN = NO_SUCH; bar 32 = NO_SUCH");
        check("12: no units", "box 9 9 1 1; bar 0 = NO_SUCH");
        check("12: one beyond as many units as there may be", "box 9 9 1 1; 8 * unit 1 1 0; bar 7 = 0",
            "bar 8 = NO_SUCH");
    }

    private static void fits() {
        check("13: as large as the room", "box 10 9 1 1; unit 10 1 0; unit 11 1 0; fits 0 0 = true; fits 0 1 = false");
        check("13: as large as the room less the slack", "box 10 9 1 1; unit 8 1 0; unit 9 1 0; slack 2",
            "fits 0 0 = true; fits 0 1 = false");
        check("13: as heavy as the load", "box 10 9 1 1; unit 1 9 0; unit 1 10 0; fits 0 0 = true; fits 0 1 = false");
        check("13: a kind that the box takes", "box 10 9 1 4; unit 1 1 2; unit 1 1 1; unit 1 1 3",
            "fits 0 0 = true; fits 0 1 = false; fits 0 2 = false");
        check("13: whoever is together with it", "box 10 9 1 1; unit 10 9 0; unit 10 9 1; group 0 1 2",
            "fits 0 0 = true; fits 0 1 = false");
        check("13: whoever is apart from it", "box 10 9 1 1; 2 * unit 1 1 0; group 0 1 1; fits 0 0 = true",
            "fits 0 1 = true");
        check("13: the first and the last of all", "5 * box 1 1 1 1; box 9 9 1 1; 7 * unit 1 1 0; unit 9 9 0",
            "fits 0 0 = true; fits 0 7 = false; fits 5 0 = true; fits 5 7 = true; fits 4 7 = false");
        check("13: no such box", "box 9 9 1 1; unit 1 1 0; fits 1 0 = NO_SUCH; fits -1 0 = NO_SUCH",
            "fits MAX 0 = NO_SUCH; fits MIN 0 = NO_SUCH; fits 32 0 = NO_SUCH");
        check("13: no such unit", "box 9 9 1 1; unit 1 1 0; fits 0 1 = NO_SUCH; fits 0 -1 = NO_SUCH",
            "fits 0 MAX = NO_SUCH; fits 0 MIN = NO_SUCH; fits 0 32 = NO_SUCH");
        check("13: neither such box nor such unit", "fits 0 0 = NO_SUCH; box 9 9 1 1; unit 1 1 0; fits 1 1 = NO_SUCH",
            "fits -1 -1 = NO_SUCH");
        check("13: no boxes", "unit 1 1 0; fits 0 0 = NO_SUCH");
        check("13: no units", "box 9 9 1 1; fits 0 0 = NO_SUCH");
        check("13: one beyond as many as there may be", "6 * box 9 9 1 1; 8 * unit 1 1 0; fits 5 7 = true",
            "fits 6 7 = NO_SUCH; fits 5 8 = NO_SUCH");
    }

    private static void used() {
        String third = "box 30 9 1 1; unit 10 1 0; choose 6 = 1";
        check("14: its upper number and its lower one", third, "used 0 = 1; used 1 = 3");
        check("14: another side: below", third, "used -1 = ARGUMENT; used MIN = ARGUMENT");
        check("14: another side: above", third, "used 2 = ARGUMENT; used MAX = ARGUMENT");
        check("14: no choice", "used 0 = STATE; used 1 = STATE; box 9 9 1 1; unit 1 1 0; used 0 = STATE");
        check("14: no choice any more", third, "slack 21; choose 6 = -1; used 0 = STATE; used 1 = STATE");
        check("14: no choice, and another side first", "used 2 = ARGUMENT; used -1 = ARGUMENT");
        check("14: it has no boxes", "box 9 9 1 1; choose 6 = 0; used 0 = ARITHMETIC; used 1 = ARITHMETIC");
        check("14: it has no boxes, and another side first", "choose 6 = 0; used 2 = ARGUMENT; used -1 = ARGUMENT");
        check("14: it has no boxes, though units came behind", "choose 6 = 0; unit 1 1 0; box 1 1 1 1",
            "used 0 = ARITHMETIC");
        check("14: all is used", "box 7 9 1 1; unit 3 1 0; unit 4 1 0; choose 6 = 1; used 0 = 1; used 1 = 1");
        check("14: lowest terms already", "box 10 9 1 1; unit 7 1 0; choose 6 = 1; used 0 = 7; used 1 = 10");
        check("14: rooms without slack", "box 30 9 1 1; unit 10 1 0; slack 20; choose 6 = 1; used 0 = 1; used 1 = 3");
        check("14: of all its boxes", "box 10 9 1 1; box 15 9 1 2; unit 6 1 0; unit 4 1 1; choose 6 = 2; used 0 = 2",
            "used 1 = 5");
        check("14: the least share", "box 1000 1000 1 1; 8 * unit 1 1000 0; choose 6 = 8; used 0 = 1; used 1 = 1000");
        check("14: the greatest numbers", "box 1000 1000 1 1; 7 * unit 1000 1 0; unit 999 1 0; choose 6 = 8",
            "used 0 = 7999; used 1 = 8000");
        check("14: the greatest share", "box 1000 1000 1 1; 8 * unit 1000 1 0; choose 6 = 8; used 0 = 1; used 1 = 1");
    }

    private static void dimensional() {
        check("15: the least room", "box 1 1 1 1; dimensional 0 1 = 1; dimensional 0 2 = 1; dimensional 0 MAX = 1");
        check("15: the greatest room", "box 1000 1 1 1; dimensional 0 1 = 1000; dimensional 0 MAX = 1");
        check("15: a divisor that goes evenly", "box 1000 1 1 1; dimensional 0 2 = 500; dimensional 0 500 = 2",
            "dimensional 0 1000 = 1");
        check("15: rounded up by one that remains", "box 1000 1 1 1; dimensional 0 3 = 334; dimensional 0 999 = 2");
        check("15: rounded up by one that is missing", "box 1000 1 1 1; dimensional 0 7 = 143; dimensional 0 501 = 2",
            "dimensional 0 1001 = 1");
        check("15: the slack leaves it", "box 1000 1 1 1; slack 1000; dimensional 0 1 = 1000");
        check("15: the divisor is below 0", "box 9 1 1 1; dimensional 0 -1 = ARGUMENT; dimensional 0 MIN = ARGUMENT");
        check("15: the divisor is 0", "box 9 1 1 1; dimensional 0 0 = ARITHMETIC");
        check("15: no such box", "box 9 1 1 1; dimensional 1 1 = NO_SUCH; dimensional -1 1 = NO_SUCH",
            "dimensional MAX 1 = NO_SUCH; dimensional MIN 1 = NO_SUCH");
        check("15: no boxes", "unit 1 1 0; dimensional 0 1 = NO_SUCH");
        check("15: one beyond as many boxes as there may be", "5 * box 9 1 1 1; box 8 1 1 1; dimensional 5 1 = 8",
            "dimensional 6 1 = NO_SUCH");
        check("15: no such box comes before a divisor below 0", "box 9 1 1 1; dimensional 1 -1 = NO_SUCH",
            "dimensional -1 MIN = NO_SUCH");
        check("15: no such box comes before a divisor of 0", "box 9 1 1 1; dimensional 1 0 = NO_SUCH",
            "dimensional -1 0 = NO_SUCH");
    }

    private static void count() {
        check("16: 0, boxes of the catalogue", "count 0 = 0; box 1 1 1 1; count 0 = 1; 5 * box 1 1 1 1; count 0 = 6",
            "count 1 = 0");
        check("16: 1, units", "count 1 = 0; unit 1 1 1; count 1 = 1; 7 * unit 1 1 1; count 1 = 8; count 0 = 0");
        check("16: 2, pairs apart: all", "8 * unit 1 1 1; count 2 = 0", everyTwo(8, 1), "count 2 = 28; count 3 = 0");
        check("16: 3, pairs together: all", "8 * unit 1 1 1; count 3 = 0", everyTwo(8, 2), "count 3 = 28; count 2 = 0");
        check("16: pairs: none any more",
            "8 * unit 1 1 1", everyTwo(8, 2), everyTwo(8, 1), everyTwo(8, 0), "count 2 = 0; count 3 = 0");
        check("16: a pair that is told twice counts once", "3 * unit 1 1 1; group 0 2 1; group 2 0 1; count 2 = 1",
            "group 0 1 2; group 1 0 2; count 3 = 1");
        check("16: together by others is no pair of its own", "3 * unit 1 1 1; group 0 1 2; group 1 2 2; count 3 = 2");
        check("16: 4, without a choice", "count 4 = -1; box 9 9 3 1; unit 1 1 0; count 4 = -1");
        check("16: 4, a choice without boxes", "choose 6 = 0; count 4 = 0");
        check("16: 4, a choice at no cost", "box 9 9 0 1; unit 1 1 0; choose 6 = 0; count 4 = 0");
        check("16: 4, the greatest cost", "box 9 9 1000 1; 8 * unit 9 1 0; choose 6 = 8000; count 4 = 8000");
        check("16: 4, no choice any more", "box 9 9 3 1; unit 1 1 0; choose 6 = 3; count 4 = 3; slack 9",
            "choose 6 = -1; count 4 = -1");
        check("16: another what", "box 9 9 3 1; unit 1 1 0; choose 6 = 3; count -1 = -1; count 5 = -1",
            "count MIN = -1; count MAX = -1");
    }

    public static void main(String[] args) {
        termsOfKinds();
        termsOfBoxes();
        termsOfUnits();
        termsOfApartAndTogether();
        termsOfAFittingSet();
        termsOfAChoice();
        termsOfExact();
        termsOfTheRule();
        anObjectIsUsedForAllItsCalls();
        aNewObject();
        box();
        unit();
        group();
        change();
        slack();
        choose();
        exact();
        boxes();
        chosen();
        where();
        bar();
        fits();
        used();
        dimensional();
        count();
        System.out.println(wrong == 0 ? "all " + runs + " boundary cases are as due" : wrong + " are not as due");
        if (wrong != 0) {
            System.exit(1);
        }
    }
}
