import java.util.concurrent.Callable;

/** Each promise of the document with ordinary inputs, its edges and wrong inputs. */
public final class PromiseTests {
    private static final String NO_SUCH = "throws.NoSuchElementException";
    private static final String ARGUMENT = "throws.IllegalArgumentException";
    private static final String STATE = "throws.IllegalStateException";
    private static final String NO_ROOM = "throws.UnsupportedOperationException";
    private static final String ARITHMETIC = "throws.ArithmeticException";
    private static final int HIGHEST = Integer.MAX_VALUE;
    private static final int LOWEST = Integer.MIN_VALUE;

    private static String promise = "";
    private static int wrong = 0;
    private static int asked = 0;

    private static void due(Object want, String call, Callable<Object> asking) {
        asked++;
        String got;
        try {
            got = String.valueOf(asking.call());
        } catch (Exception e) {
            got = "throws." + e.getClass().getSimpleName();
        }
        if (!got.equals(String.valueOf(want))) {
            wrong++;
            System.out.println(promise + ": " + call + " answered " + got + ", due is " + want);
        }
    }

    private static void dueBox(Object want, BoxChoice x, int room, int load, int cost, int kinds) {
        due(want, "box(" + room + ", " + load + ", " + cost + ", " + kinds + ")", () -> x.box(room, load, cost, kinds));
    }

    private static void dueUnit(Object want, BoxChoice x, int size, int weight, int kind) {
        due(want, "unit(" + size + ", " + weight + ", " + kind + ")", () -> x.unit(size, weight, kind));
    }

    private static void dueGroup(Object want, BoxChoice x, int unit, int other, int how) {
        due(want, "group(" + unit + ", " + other + ", " + how + ")", () -> x.group(unit, other, how));
    }

    private static void dueChange(Object want, BoxChoice x, int unit, int weight) {
        due(want, "change(" + unit + ", " + weight + ")", () -> x.change(unit, weight));
    }

    private static void dueSlack(Object want, BoxChoice x, int s) {
        due(want, "slack(" + s + ")", () -> {
            x.slack(s);
            return "done";
        });
    }

    private static void dueChoose(Object want, BoxChoice x, int most) {
        due(want, "choose(" + most + ")", () -> x.choose(most));
    }

    private static void dueExact(Object want, BoxChoice x) {
        due(want, "exact()", () -> x.exact());
    }

    private static void dueBoxes(Object want, BoxChoice x) {
        due(want, "boxes()", () -> x.boxes());
    }

    private static void dueChosen(Object want, BoxChoice x, int i, int what) {
        due(want, "chosen(" + i + ", " + what + ")", () -> x.chosen(i, what));
    }

    private static void dueWhere(Object want, BoxChoice x, int unit) {
        due(want, "where(" + unit + ")", () -> x.where(unit));
    }

    private static void dueBar(Object want, BoxChoice x, int unit) {
        due(want, "bar(" + unit + ")", () -> x.bar(unit));
    }

    private static void dueFits(Object want, BoxChoice x, int box, int unit) {
        due(want, "fits(" + box + ", " + unit + ")", () -> x.fits(box, unit));
    }

    private static void dueUsed(Object want, BoxChoice x, int side) {
        due(want, "used(" + side + ")", () -> x.used(side));
    }

    private static void dueDimensional(Object want, BoxChoice x, int box, int divisor) {
        due(want, "dimensional(" + box + ", " + divisor + ")", () -> x.dimensional(box, divisor));
    }

    private static void dueCount(Object want, BoxChoice x, int what) {
        due(want, "count(" + what + ")", () -> x.count(what));
    }

    /** The boxes of a choice: catalogue number and units, by turns. */
    private static void dueChoice(BoxChoice x, int... boxesAndSets) {
        dueBoxes(boxesAndSets.length / 2, x);
        for (int i = 0; i < boxesAndSets.length / 2; i++) {
            dueChosen(boxesAndSets[2 * i], x, i, 0);
            dueChosen(boxesAndSets[2 * i + 1], x, i, 1);
        }
    }

    private static BoxChoice withUnits(int number, int size, int weight) {
        BoxChoice x = new BoxChoice();
        for (int unit = 0; unit < number; unit++) {
            x.unit(size, weight, 0);
        }
        return x;
    }

    private static void aNewObject() {
        BoxChoice x = new BoxChoice();
        for (int what = 0; what <= 3; what++) {
            dueCount(0, x, what);
        }
        dueCount(-1, x, 4);
        dueBoxes(-1, x);
        dueExact(false, x);
        dueWhere(NO_SUCH, x, 0);
        dueBar(NO_SUCH, x, 0);
        dueFits(NO_SUCH, x, 0, 0);
        dueDimensional(NO_SUCH, x, 0, 1);
        dueChosen(NO_SUCH, x, 0, 0);
        dueUsed(STATE, x, 0);
        x.box(10, 10, 1, 1);
        x.unit(10, 10, 0);
        dueFits(true, x, 0, 0);
    }

    private static void objectsAreTheirOwn() {
        BoxChoice x = new BoxChoice();
        BoxChoice y = new BoxChoice();
        x.box(10, 10, 1, 1);
        x.unit(1, 1, 0);
        x.choose(6);
        dueCount(0, y, 0);
        dueCount(0, y, 1);
        dueBoxes(-1, y);
    }

    private static void box() {
        BoxChoice x = new BoxChoice();
        int[][] refused = {
            {0, 1, 0, 0}, {1001, 1, 0, 0}, {-1, 1, 0, 0}, {HIGHEST, 1, 0, 0}, {LOWEST, 1, 0, 0},
            {1, 0, 0, 0}, {1, 1001, 0, 0}, {1, HIGHEST, 0, 0}, {1, LOWEST, 0, 0},
            {1, 1, -1, 0}, {1, 1, 1001, 0}, {1, 1, HIGHEST, 0}, {1, 1, LOWEST, 0},
            {1, 1, 0, -1}, {1, 1, 0, 256}, {1, 1, 0, HIGHEST}, {1, 1, 0, LOWEST}};
        for (int[] r : refused) {
            dueBox(ARGUMENT, x, r[0], r[1], r[2], r[3]);
        }
        dueCount(0, x, 0);
        dueBox(0, x, 1, 1, 0, 0);
        dueBox(1, x, 1000, 1000, 1000, 255);
        dueBox(2, x, 1, 1, 0, 0);
        dueBox(3, x, 5, 5, 5, 5);
        dueBox(4, x, 5, 5, 5, 5);
        dueBox(5, x, 5, 5, 5, 5);
        dueBox(NO_ROOM, x, 5, 5, 5, 5);
        for (int[] r : refused) {
            dueBox(ARGUMENT, x, r[0], r[1], r[2], r[3]);
        }
        dueCount(6, x, 0);
    }

    private static void unit() {
        BoxChoice x = new BoxChoice();
        int[][] refused = {
            {0, 0, 0}, {1001, 0, 0}, {-1, 0, 0}, {HIGHEST, 0, 0}, {LOWEST, 0, 0},
            {1, -1, 0}, {1, 1001, 0}, {1, HIGHEST, 0}, {1, LOWEST, 0},
            {1, 0, -1}, {1, 0, 8}, {1, 0, HIGHEST}, {1, 0, LOWEST}};
        for (int[] r : refused) {
            dueUnit(ARGUMENT, x, r[0], r[1], r[2]);
        }
        dueCount(0, x, 1);
        dueUnit(0, x, 1, 0, 0);
        dueUnit(1, x, 1000, 1000, 7);
        for (int unit = 2; unit < 8; unit++) {
            dueUnit(unit, x, 5, 5, 5);
        }
        dueUnit(NO_ROOM, x, 5, 5, 5);
        for (int[] r : refused) {
            dueUnit(ARGUMENT, x, r[0], r[1], r[2]);
        }
        dueCount(8, x, 1);
    }

    private static void group() {
        BoxChoice x = withUnits(3, 1, 1);
        dueGroup(0, x, 0, 1, 1);
        dueGroup(1, x, 1, 0, 2);
        dueGroup(2, x, 0, 1, 2);
        dueGroup(2, x, 0, 1, 1);
        dueGroup(1, x, 0, 1, 0);
        dueGroup(0, x, 1, 0, 0);
        dueGroup(0, x, 0, 2, 0);
        dueGroup(NO_SUCH, x, 3, 0, 0);
        dueGroup(NO_SUCH, x, 0, 3, 0);
        dueGroup(NO_SUCH, x, -1, 0, 9);
        dueGroup(NO_SUCH, x, 0, LOWEST, 9);
        dueGroup(NO_SUCH, x, HIGHEST, HIGHEST, 1);
        dueGroup(ARGUMENT, x, 0, 1, 3);
        dueGroup(ARGUMENT, x, 0, 1, -1);
        dueGroup(ARGUMENT, x, 0, 1, HIGHEST);
        dueGroup(ARGUMENT, x, 0, 1, LOWEST);
        dueGroup(ARGUMENT, x, 2, 2, 0);
        dueGroup(ARGUMENT, x, 2, 2, 2);
        dueCount(0, x, 2);
        dueCount(0, x, 3);
    }

    private static void change() {
        BoxChoice x = withUnits(2, 1, 7);
        x.box(10, 20, 1, 1);
        dueChange(7, x, 0, 1000);
        dueChange(1000, x, 0, 0);
        dueChange(0, x, 0, 20);
        dueChange(7, x, 1, 21);
        dueFits(true, x, 0, 0);
        dueFits(false, x, 0, 1);
        dueChange(NO_SUCH, x, 2, 0);
        dueChange(NO_SUCH, x, -1, 1001);
        dueChange(NO_SUCH, x, HIGHEST, 5);
        dueChange(ARGUMENT, x, 0, -1);
        dueChange(ARGUMENT, x, 0, 1001);
        dueChange(ARGUMENT, x, 0, LOWEST);
        dueChange(20, x, 0, 1);
    }

    private static void slack() {
        BoxChoice x = withUnits(1, 10, 1);
        x.box(15, 1, 1, 1);
        dueSlack("done", x, 5);
        dueFits(true, x, 0, 0);
        dueSlack("done", x, 6);
        dueFits(false, x, 0, 0);
        dueBar(2, x, 0);
        dueChoose(-1, x, 6);
        dueChoose(-1, x, 0);
        dueSlack(ARGUMENT, x, -1);
        dueSlack(ARGUMENT, x, 1001);
        dueSlack(ARGUMENT, x, HIGHEST);
        dueSlack(ARGUMENT, x, LOWEST);
        dueFits(false, x, 0, 0);
        dueSlack("done", x, 1000);
        dueFits(false, x, 0, 0);
        dueSlack("done", x, 0);
        dueFits(true, x, 0, 0);
        dueChoose(1, x, 6);
    }

    private static void chooseRefusesAndClears() {
        BoxChoice x = withUnits(1, 10, 1);
        dueChoose(ARGUMENT, x, -1);
        dueChoose(ARGUMENT, x, 7);
        dueChoose(ARGUMENT, x, HIGHEST);
        dueChoose(ARGUMENT, x, LOWEST);
        x.box(10, 1, 3, 1);
        dueChoose(3, x, 1);
        dueChoose(ARGUMENT, x, 7);
        dueBoxes(1, x);
        dueExact(true, x);
        dueCount(3, x, 4);
        x.slack(1);
        dueBoxes(1, x);
        dueChoose(-1, x, 1);
        dueBoxes(-1, x);
        dueCount(-1, x, 4);
        dueExact(false, x);
        dueChosen(NO_SUCH, x, 0, 0);
    }

    private static void chooseTakesTheLeastCost() {
        BoxChoice x = withUnits(3, 10, 1);
        x.box(30, 9, 31, 1);
        x.box(10, 9, 10, 1);
        dueChoose(30, x, 3);
        dueChoice(x, 1, 1, 1, 2, 1, 4);
        x.box(20, 9, 19, 1);
        dueChoose(29, x, 3);
        dueChoice(x, 1, 1, 2, 6);
    }

    private static void chooseTakesTheFewestBoxes() {
        BoxChoice x = withUnits(3, 10, 1);
        x.box(10, 9, 10, 1);
        x.box(20, 9, 20, 1);
        dueChoose(30, x, 6);
        dueChoice(x, 0, 1, 1, 6);
        x.box(30, 9, 30, 1);
        dueChoose(30, x, 6);
        dueChoice(x, 2, 7);
    }

    private static void chooseTakesTheFirst() {
        BoxChoice x = withUnits(4, 10, 1);
        x.box(20, 9, 5, 1);
        x.box(20, 9, 5, 1);
        dueChoose(10, x, 6);
        dueChoice(x, 0, 3, 0, 12);
        x.group(0, 1, 1);
        dueChoose(10, x, 6);
        dueChoice(x, 0, 5, 0, 10);

        // The number in the catalogue counts before the set, and the first box before the second.
        BoxChoice y = new BoxChoice();
        y.unit(10, 1, 0);
        y.unit(10, 1, 0);
        y.unit(10, 1, 0);
        y.box(20, 9, 5, 1);
        y.box(10, 9, 5, 1);
        dueChoose(10, y, 6);
        dueChoice(y, 0, 1, 0, 6);
        BoxChoice z = new BoxChoice();
        z.unit(10, 1, 0);
        z.unit(10, 1, 1);
        z.unit(10, 1, 1);
        z.box(20, 9, 5, 3);
        z.box(10, 9, 5, 1);
        dueChoose(10, z, 6);
        dueChoice(z, 0, 1, 0, 6);
        BoxChoice w = new BoxChoice();
        w.unit(10, 1, 0);
        w.unit(10, 1, 0);
        w.unit(10, 1, 0);
        w.box(20, 9, 5, 1);
        w.box(10, 9, 4, 1);
        dueChoose(9, w, 6);
        dueChoice(w, 0, 3, 1, 4);
        BoxChoice v = new BoxChoice();
        v.unit(10, 1, 0);
        v.unit(10, 1, 0);
        v.unit(10, 1, 0);
        v.box(10, 9, 4, 1);
        v.box(20, 9, 5, 1);
        dueChoose(9, v, 6);
        dueChoice(v, 0, 1, 1, 6);
    }

    private static void chooseKeepsApartAndTogether() {
        BoxChoice x = withUnits(4, 10, 10);
        x.box(40, 40, 9, 1);
        x.box(20, 20, 6, 1);
        dueChoose(9, x, 4);
        x.group(0, 3, 1);
        dueChoose(12, x, 4);
        dueChoice(x, 1, 3, 1, 12);
        x.group(2, 0, 2);
        dueChoose(12, x, 4);
        dueChoice(x, 1, 5, 1, 10);
        x.group(2, 3, 2);
        dueChoose(-1, x, 4);
        dueChoose(-1, x, 3);
        x.group(0, 3, 0);
        x.change(3, 30);
        dueChoose(-1, x, 4);
        x.change(3, 20);
        dueChoose(15, x, 4);
        dueChoice(x, 0, 13, 1, 2);
    }

    private static void chooseByRule() {
        BoxChoice x = withUnits(3, 10, 1);
        x.box(30, 9, 31, 1);
        x.box(10, 9, 10, 1);
        x.box(10, 9, 10, 1);
        dueChoose(30, x, 2);
        dueExact(false, x);
        dueChoice(x, 1, 1, 1, 2, 1, 4);
        dueChoose(30, x, 0);

        // The rule opens the cheapest box for the first unit, and later ones come to the first that fits.
        BoxChoice y = new BoxChoice();
        y.box(30, 9, 7, 1);
        y.box(25, 9, 8, 3);
        y.unit(20, 1, 0);
        y.unit(20, 1, 1);
        y.unit(5, 1, 1);
        y.unit(5, 1, 0);
        y.unit(6, 1, 0);
        y.group(3, 4, 1);
        dueChoose(22, y, 4);
        dueChoice(y, 0, 9, 1, 6, 0, 16);
        dueWhere(0, y, 3);
        dueWhere(2, y, 4);
        y.group(0, 4, 2);
        dueChoose(22, y, 4);
        dueChoice(y, 0, 17, 1, 6, 0, 8);
    }

    private static void chooseByRuleTakesCompaniesByOthers() {
        BoxChoice x = withUnits(7, 10, 1);
        x.box(40, 9, 4, 1);
        x.box(10, 9, 3, 1);
        x.group(0, 5, 2);
        x.group(5, 3, 2);
        x.group(3, 6, 2);
        dueChoose(13, x, 6);
        dueChoice(x, 0, 105, 1, 2, 1, 4, 1, 16);
        x.group(0, 6, 1);
        dueChoose(-1, x, 6);
        dueBoxes(-1, x);
    }

    private static void chooseByRuleThatFailsLeavesNothing() {
        BoxChoice x = withUnits(2, 10, 1);
        x.box(10, 9, 4, 1);
        x.unit(11, 1, 0);
        dueChoose(-1, x, 2);
        dueBoxes(-1, x);
        dueChosen(NO_SUCH, x, 0, 0);
        dueWhere(-1, x, 0);
        dueCount(-1, x, 4);
        dueUsed(STATE, x, 0);
    }

    private static void chooseGoesUpToAllBoxesAndUnits() {
        BoxChoice x = withUnits(6, 10, 1);
        for (int box = 0; box < 6; box++) {
            x.box(10, 9, 1000 - box, 1);
        }
        dueChoose(6 * 995, x, 6);
        dueChoice(x, 5, 1, 5, 2, 5, 4, 5, 8, 5, 16, 5, 32);
        x.unit(10, 1, 0);
        x.unit(10, 1, 0);
        dueChoose(8 * 995, x, 6);
        dueWhere(7, x, 7);
        for (int unit = 0; unit < 8; unit++) {
            dueBar(0, x, unit);
            dueFits(true, x, 5, unit);
        }
        // A lesser choice must not let what an earlier one had behind its end be seen.
        for (int unit = 1; unit < 8; unit++) {
            x.group(0, unit, 2);
        }
        dueBar(2, x, 7);
        dueChoose(-1, x, 6);
        dueWhere(-1, x, 7);
        dueChosen(NO_SUCH, x, 7, 0);
    }

    private static void chooseByRuleMayMissWhatExactFinds() {
        BoxChoice x = new BoxChoice();
        x.box(10, 9, 1, 1);
        x.box(30, 9, 2, 1);
        x.unit(10, 1, 0);
        x.unit(20, 1, 0);
        dueChoose(3, x, 1);
        dueChoose(2, x, 2);
        dueChoice(x, 1, 3);
    }

    private static void exact() {
        BoxChoice x = new BoxChoice();
        dueExact(false, x);
        dueChoose(0, x, 0);
        dueExact(true, x);
        x.box(10, 10, 1, 1);
        for (int unit = 0; unit < 6; unit++) {
            x.unit(1, 1, 0);
        }
        dueExact(true, x);
        dueChoose(1, x, 6);
        dueExact(true, x);
        dueChoose(1, x, 5);
        dueExact(false, x);
        x.unit(1, 1, 0);
        dueChoose(1, x, 6);
        dueExact(false, x);
    }

    private static void boxes() {
        BoxChoice x = new BoxChoice();
        dueBoxes(-1, x);
        dueChoose(0, x, 6);
        dueBoxes(0, x);
        x.box(1, 1, 1000, 1);
        for (int unit = 0; unit < 8; unit++) {
            x.unit(1, 1, 0);
        }
        dueBoxes(0, x);
        dueChoose(8000, x, 6);
        dueBoxes(8, x);
        for (int unit = 0; unit < 8; unit++) {
            dueWhere(unit, x, unit);
        }
    }

    private static void chosen() {
        BoxChoice x = new BoxChoice();
        dueChosen(NO_SUCH, x, 0, 0);
        x.box(5, 5, 9, 2);
        x.box(100, 100, 9, 1);
        x.unit(30, 11, 0);
        x.unit(40, 12, 0);
        dueChoose(9, x, 6);
        dueChosen(1, x, 0, 0);
        dueChosen(3, x, 0, 1);
        dueChosen(70, x, 0, 2);
        dueChosen(23, x, 0, 3);
        x.change(1, 1000);
        dueChosen(1011, x, 0, 3);
        x.unit(1, 1, 0);
        dueChosen(3, x, 0, 1);
        dueChosen(NO_SUCH, x, 1, 0);
        dueChosen(NO_SUCH, x, -1, 9);
        dueChosen(NO_SUCH, x, HIGHEST, 0);
        dueChosen(NO_SUCH, x, LOWEST, 0);
        dueChosen(ARGUMENT, x, 0, 4);
        dueChosen(ARGUMENT, x, 0, -1);
        dueChosen(ARGUMENT, x, 0, HIGHEST);
        dueChosen(ARGUMENT, x, 0, LOWEST);
    }

    private static void where() {
        BoxChoice x = withUnits(3, 10, 1);
        x.box(20, 9, 1, 1);
        dueWhere(-1, x, 0);
        x.group(0, 1, 1);
        dueChoose(2, x, 6);
        dueWhere(0, x, 0);
        dueWhere(1, x, 1);
        dueWhere(1, x, 2);
        x.unit(10, 1, 0);
        dueWhere(-1, x, 3);
        dueWhere(1, x, 2);
        dueWhere(NO_SUCH, x, 4);
        dueWhere(NO_SUCH, x, -1);
        dueWhere(NO_SUCH, x, HIGHEST);
        dueWhere(NO_SUCH, x, LOWEST);
        dueWhere(NO_SUCH, x, 32);
    }

    private static void bar() {
        BoxChoice x = new BoxChoice();
        x.unit(10, 10, 0);
        x.unit(10, 10, 1);
        x.unit(10, 10, 2);
        dueBar(1, x, 0);
        x.box(1000, 1000, 0, 5);
        dueBar(0, x, 0);
        dueBar(1, x, 1);
        x.group(0, 1, 2);
        dueBar(1, x, 0);
        // Each box fails at another thing, so only what is asked of the boxes left tells the first bar.
        x.box(19, 1000, 0, 3);
        dueBar(2, x, 0);
        x.box(20, 19, 0, 3);
        dueBar(3, x, 0);
        x.box(20, 20, 0, 3);
        dueBar(0, x, 0);
        x.slack(1);
        dueBar(2, x, 1);
        x.slack(0);
        x.group(1, 2, 2);
        dueBar(1, x, 0);
        x.box(30, 30, 0, 7);
        dueBar(0, x, 0);
        x.group(0, 2, 1);
        dueBar(4, x, 0);
        dueBar(4, x, 1);
        x.change(1, 11);
        dueBar(3, x, 2);
        dueBar(NO_SUCH, x, 3);
        dueBar(NO_SUCH, x, -1);
        dueBar(NO_SUCH, x, HIGHEST);
        dueBar(NO_SUCH, x, LOWEST);
    }

    private static void fits() {
        BoxChoice x = new BoxChoice();
        x.box(10, 10, 0, 128);
        x.unit(10, 10, 7);
        x.unit(10, 10, 6);
        x.unit(11, 10, 7);
        x.unit(10, 11, 7);
        dueFits(true, x, 0, 0);
        dueFits(false, x, 0, 1);
        dueFits(false, x, 0, 2);
        dueFits(false, x, 0, 3);
        x.group(0, 1, 2);
        x.group(0, 2, 1);
        dueFits(true, x, 0, 0);
        x.box(10, 10, 0, 127);
        dueFits(false, x, 1, 0);
        dueFits(true, x, 1, 1);
        dueFits(NO_SUCH, x, 2, 0);
        dueFits(NO_SUCH, x, 0, 4);
        dueFits(NO_SUCH, x, -1, 0);
        dueFits(NO_SUCH, x, 0, -1);
        dueFits(NO_SUCH, x, HIGHEST, LOWEST);
    }

    private static void used() {
        BoxChoice x = new BoxChoice();
        dueUsed(ARGUMENT, x, 2);
        dueUsed(STATE, x, 1);
        dueChoose(0, x, 0);
        dueUsed(ARITHMETIC, x, 0);
        dueUsed(ARITHMETIC, x, 1);
        dueUsed(ARGUMENT, x, 2);
        dueUsed(ARGUMENT, x, -1);
        dueUsed(ARGUMENT, x, HIGHEST);
        dueUsed(ARGUMENT, x, LOWEST);
        x.box(40, 9, 1, 1);
        x.unit(12, 9, 0);
        x.unit(18, 9, 0);
        x.slack(10);
        dueChoose(2, x, 6);
        dueUsed(3, x, 0);
        dueUsed(8, x, 1);
        x.unit(10, 9, 0);
        dueUsed(3, x, 0);
        x.slack(0);
        x.box(40, 30, 1, 1);
        dueChoose(1, x, 6);
        dueUsed(1, x, 0);
        dueUsed(1, x, 1);
        x.slack(1000);
        dueUsed(1, x, 0);
        dueChoose(-1, x, 6);
        dueUsed(STATE, x, 0);

        BoxChoice y = withUnits(1, 7, 1);
        y.box(10, 9, 1, 1);
        dueChoose(1, y, 6);
        dueUsed(7, y, 0);
        dueUsed(10, y, 1);
    }

    private static void dimensional() {
        BoxChoice x = new BoxChoice();
        x.box(1000, 1, 1, 1);
        x.box(1, 1, 1, 1);
        dueDimensional(1000, x, 0, 1);
        dueDimensional(200, x, 0, 5);
        dueDimensional(334, x, 0, 3);
        dueDimensional(2, x, 0, 999);
        dueDimensional(1, x, 0, 1000);
        dueDimensional(1, x, 0, HIGHEST);
        dueDimensional(1, x, 1, 1);
        dueDimensional(1, x, 1, HIGHEST);
        x.slack(500);
        dueDimensional(200, x, 0, 5);
        dueDimensional(ARGUMENT, x, 0, -1);
        dueDimensional(ARGUMENT, x, 0, LOWEST);
        dueDimensional(ARITHMETIC, x, 0, 0);
        dueDimensional(NO_SUCH, x, 2, 0);
        dueDimensional(NO_SUCH, x, -1, -1);
        dueDimensional(NO_SUCH, x, HIGHEST, 1);
    }

    private static void count() {
        BoxChoice x = withUnits(4, 10, 1);
        x.box(20, 9, 7, 1);
        x.box(20, 9, 7, 1);
        x.group(0, 1, 1);
        x.group(1, 0, 1);
        x.group(0, 2, 1);
        x.group(3, 2, 2);
        dueCount(2, x, 0);
        dueCount(4, x, 1);
        dueCount(2, x, 2);
        dueCount(1, x, 3);
        dueCount(-1, x, 4);
        x.group(1, 2, 2);
        dueCount(2, x, 3);
        x.group(0, 2, 2);
        dueCount(1, x, 2);
        dueCount(3, x, 3);
        x.group(2, 0, 0);
        dueCount(2, x, 3);
        x.group(1, 2, 0);
        dueChoose(21, x, 6);
        dueCount(21, x, 4);
        for (int what : new int[] {-1, 5, HIGHEST, LOWEST}) {
            dueCount(-1, x, what);
        }
    }

    private static void during(String name, Runnable test) {
        promise = name;
        test.run();
    }

    public static void main(String[] args) {
        during("promise 1, a new object", PromiseTests::aNewObject);
        during("promise 1, objects are their own", PromiseTests::objectsAreTheirOwn);
        during("promise 2, box", PromiseTests::box);
        during("promise 3, unit", PromiseTests::unit);
        during("promise 4, group", PromiseTests::group);
        during("promise 5, change", PromiseTests::change);
        during("promise 6, slack", PromiseTests::slack);
        during("promise 7, refusals", PromiseTests::chooseRefusesAndClears);
        during("promise 7, least cost", PromiseTests::chooseTakesTheLeastCost);
        during("promise 7, fewest boxes", PromiseTests::chooseTakesTheFewestBoxes);
        during("promise 7, the first", PromiseTests::chooseTakesTheFirst);
        during("promise 7, apart and together", PromiseTests::chooseKeepsApartAndTogether);
        during("promise 7, by rule", PromiseTests::chooseByRule);
        during("promise 7, by rule with companies", PromiseTests::chooseByRuleTakesCompaniesByOthers);
        during("promise 7, by rule without a choice", PromiseTests::chooseByRuleThatFailsLeavesNothing);
        during("promise 7, full", PromiseTests::chooseGoesUpToAllBoxesAndUnits);
        during("promise 7, rule against exact", PromiseTests::chooseByRuleMayMissWhatExactFinds);
        during("promise 8, exact", PromiseTests::exact);
        during("promise 9, boxes", PromiseTests::boxes);
        during("promise 10, chosen", PromiseTests::chosen);
        during("promise 11, where", PromiseTests::where);
        during("promise 12, bar", PromiseTests::bar);
        during("promise 13, fits", PromiseTests::fits);
        during("promise 14, used", PromiseTests::used);
        during("promise 15, dimensional", PromiseTests::dimensional);
        during("promise 16, count", PromiseTests::count);
        System.out.println(wrong == 0 ? "all " + asked + " answers are as due" : wrong + " answers are not as due");
        if (wrong != 0) {
            System.exit(1);
        }
    }
}
