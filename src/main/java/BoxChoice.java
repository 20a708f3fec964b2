import java.util.NoSuchElementException;

/**
 * Chooses boxes of a catalogue for units, at least cost exactly or by rule.
 * Sets of units, of boxes and of kinds are held as bits: bit n stands for number n.
 */
public final class BoxChoice {
    private static final int NONE = -1;
    private static final int MOST_BOXES = 6;
    private static final int MOST_UNITS = 8;
    private static final int MOST_EXACT = 6;
    private static final int EXACT_SETS = 1 << MOST_EXACT;
    private static final int LIMIT = 1000;
    private static final int LAST_KIND = 7;
    private static final int ALL_KINDS = 255;

    private static final int FREE = 0;
    private static final int APART = 1;
    private static final int TOGETHER = 2;

    private final Catalogue catalogue;
    private final Units units;
    private final Choice choice;
    private final ExactSearch search;

    public BoxChoice() {
        catalogue = new Catalogue();
        units = new Units();
        choice = new Choice();
        search = new ExactSearch();
    }

    public int box(int room, int load, int cost, int kinds)
            throws IllegalArgumentException, UnsupportedOperationException {
        needRange(room, 1, LIMIT);
        needRange(load, 1, LIMIT);
        needRange(cost, 0, LIMIT);
        needRange(kinds, 0, ALL_KINDS);
        if (catalogue.isFull()) {
            throw new UnsupportedOperationException("the catalogue is full");
        }
        return catalogue.add(room, load, cost, kinds);
    }

    public int unit(int size, int weight, int kind)
            throws IllegalArgumentException, UnsupportedOperationException {
        needRange(size, 1, LIMIT);
        needRange(weight, 0, LIMIT);
        needRange(kind, 0, LAST_KIND);
        if (units.isFull()) {
            throw new UnsupportedOperationException("there is no room for another unit");
        }
        return units.add(size, weight, kind);
    }

    public int group(int unit, int other, int how) throws NoSuchElementException, IllegalArgumentException {
        needUnit(unit);
        needUnit(other);
        needRange(how, FREE, TOGETHER);
        if (unit == other) {
            throw new IllegalArgumentException("a unit is not grouped with itself");
        }
        int earlier = units.relationOf(unit, other);
        units.relate(unit, other, how);
        return earlier;
    }

    public int change(int unit, int weight) throws NoSuchElementException, IllegalArgumentException {
        needUnit(unit);
        needRange(weight, 0, LIMIT);
        return units.reweigh(unit, weight);
    }

    public void slack(int s) throws IllegalArgumentException {
        needRange(s, 0, LIMIT);
        catalogue.keepSlack(s);
    }

    public int choose(int most) throws IllegalArgumentException {
        needRange(most, 0, MOST_EXACT);
        boolean exactly = units.held <= most;
        choice.clear();
        boolean complete = exactly ? putExactly() : putByRule();
        if (!complete) {
            choice.clear();
            return NONE;
        }
        choice.finish(exactly);
        return choice.cost;
    }

    public boolean exact() {
        return choice.made && choice.exactly;
    }

    public int boxes() {
        return choice.made ? choice.held : NONE;
    }

    public int chosen(int i, int what) throws NoSuchElementException, IllegalArgumentException {
        if (!choice.has(i)) {
            throw new NoSuchElementException("the choice has no such box");
        }
        switch (what) {
            case 0:
                return choice.boxAt(i);
            case 1:
                return choice.setAt(i);
            case 2:
                return units.sizeOf(choice.setAt(i));
            case 3:
                return units.weightOf(choice.setAt(i));
            default:
                throw new IllegalArgumentException("a box of the choice is asked for 0 .. 3");
        }
    }

    public int where(int unit) throws NoSuchElementException {
        needUnit(unit);
        return choice.holderOf(unit);
    }

    public int bar(int unit) throws NoSuchElementException {
        needUnit(unit);
        int company = units.companyOf(unit);
        int left = catalogue.thatTake(units.kindsOf(company));
        if (left == 0) {
            return 1;
        }
        left &= catalogue.withRoomFor(units.sizeOf(company));
        if (left == 0) {
            return 2;
        }
        left &= catalogue.thatBear(units.weightOf(company));
        if (left == 0) {
            return 3;
        }
        return units.anyApart(company) ? 4 : 0;
    }

    public boolean fits(int box, int unit) throws NoSuchElementException {
        needBox(box);
        needUnit(unit);
        return holds(boxesThatCarry(1 << unit), box);
    }

    public int used(int side) throws IllegalArgumentException, IllegalStateException, ArithmeticException {
        needRange(side, 0, 1);
        if (!choice.made) {
            throw new IllegalStateException("there is no choice");
        }
        int sizes = 0;
        int rooms = 0;
        for (int i = 0; i < choice.held; i++) {
            sizes += units.sizeOf(choice.setAt(i));
            rooms += catalogue.roomOf(choice.boxAt(i));
        }
        int divisor = commonDivisor(sizes, rooms);
        if (divisor == 0) {
            throw new ArithmeticException("/ by zero");
        }
        return (side == 0 ? sizes : rooms) / divisor;
    }

    public int dimensional(int box, int divisor)
            throws NoSuchElementException, IllegalArgumentException, ArithmeticException {
        needBox(box);
        if (divisor < 0) {
            throw new IllegalArgumentException("the divisor is below 0");
        }
        if (divisor == 0) {
            throw new ArithmeticException("/ by zero");
        }
        // A room is at least 1, and adding the divisor before dividing could overflow.
        return (catalogue.roomOf(box) - 1) / divisor + 1;
    }

    public int count(int what) {
        switch (what) {
            case 0:
                return catalogue.held;
            case 1:
                return units.held;
            case 2:
                return units.pairsOf(APART);
            case 3:
                return units.pairsOf(TOGETHER);
            case 4:
                return choice.made ? choice.cost : NONE;
            default:
                return NONE;
        }
    }

    private void needBox(int box) {
        if (!catalogue.has(box)) {
            throw new NoSuchElementException("there is no such box");
        }
    }

    private void needUnit(int unit) {
        if (!units.has(unit)) {
            throw new NoSuchElementException("there is no such unit");
        }
    }

    private static void needRange(int number, int least, int greatest) {
        if (number < least || number > greatest) {
            throw new IllegalArgumentException("a number is outside its range");
        }
    }

    private static boolean holds(int set, int number) {
        return (set >> number & 1) != 0;
    }

    private static int commonDivisor(int one, int other) {
        int a = one;
        int b = other;
        // Each step lessens b, and rooms of few boxes need far fewer steps than this.
        for (int step = 0; step < LIMIT && b > 0; step++) {
            int rest = a % b;
            a = b;
            b = rest;
        }
        return a;
    }

    /** The boxes that a set suits by kinds, sizes and weights alone. */
    private int boxesThatCarry(int set) {
        return catalogue.thatTake(units.kindsOf(set))
            & catalogue.withRoomFor(units.sizeOf(set))
            & catalogue.thatBear(units.weightOf(set));
    }

    /** The boxes that a set fits. */
    private int boxesFor(int set) {
        if (units.anyApart(set) || !units.isWhole(set)) {
            return 0;
        }
        return boxesThatCarry(set);
    }

    private boolean putExactly() {
        int all = units.all();
        search.clear();
        for (int set = 1; set <= all; set++) {
            int box = catalogue.cheapestOf(boxesFor(set));
            if (box != NONE) {
                search.offer(set, box, catalogue.costOf(box));
            }
        }
        return search.putBest(all, choice);
    }

    private boolean putByRule() {
        int placed = 0;
        for (int unit = 0; unit < units.held; unit++) {
            if (!holds(placed, unit)) {
                int company = units.companyOf(unit);
                if (!putCompany(company)) {
                    return false;
                }
                placed |= company;
            }
        }
        return true;
    }

    private boolean putCompany(int company) {
        for (int i = 0; i < choice.held; i++) {
            int set = choice.setAt(i) | company;
            if (holds(boxesFor(set), choice.boxAt(i))) {
                choice.replaceSet(i, set);
                return true;
            }
        }
        int box = catalogue.cheapestOf(boxesFor(company));
        if (box == NONE) {
            return false;
        }
        choice.append(box, company, catalogue.costOf(box));
        return true;
    }

    /** The boxes that there are, and the slack that is kept free in each. */
    private static final class Catalogue {
        private final int[] rooms = new int[MOST_BOXES];
        private final int[] loads = new int[MOST_BOXES];
        private final int[] costs = new int[MOST_BOXES];
        private final int[] kindSets = new int[MOST_BOXES];
        private int held;
        private int keptSlack;

        boolean has(int box) {
            return box >= 0 && box < held;
        }

        boolean isFull() {
            return held >= MOST_BOXES;
        }

        int add(int room, int load, int cost, int kinds) {
            if (isFull()) {
                return NONE;
            }
            int box = held;
            rooms[box] = room;
            loads[box] = load;
            costs[box] = cost;
            kindSets[box] = kinds;
            held++;
            return box;
        }

        void keepSlack(int s) {
            keptSlack = s;
        }

        int roomOf(int box) {
            return has(box) ? rooms[box] : 0;
        }

        int costOf(int box) {
            return has(box) ? costs[box] : 0;
        }

        int thatTake(int kinds) {
            int found = 0;
            for (int box = 0; box < held; box++) {
                if ((kinds & ~kindSets[box]) == 0) {
                    found |= 1 << box;
                }
            }
            return found;
        }

        int withRoomFor(int size) {
            return withAtLeast(rooms, size + keptSlack);
        }

        int thatBear(int weight) {
            return withAtLeast(loads, weight);
        }

        private int withAtLeast(int[] numbers, int least) {
            int found = 0;
            for (int box = 0; box < held; box++) {
                if (numbers[box] >= least) {
                    found |= 1 << box;
                }
            }
            return found;
        }

        /** Of a set of boxes the one at the least cost, of equal ones the lowest number. */
        int cheapestOf(int set) {
            int cheapest = NONE;
            for (int box = 0; box < held; box++) {
                if (holds(set, box) && (cheapest == NONE || costs[box] < costOf(cheapest))) {
                    cheapest = box;
                }
            }
            return cheapest;
        }
    }

    /** The units that there are, and which of them are apart or together. */
    private static final class Units {
        private final int[] sizes = new int[MOST_UNITS];
        private final int[] weights = new int[MOST_UNITS];
        private final int[] kinds = new int[MOST_UNITS];
        private final int[] apartFrom = new int[MOST_UNITS];
        private final int[] togetherWith = new int[MOST_UNITS];
        private int held;

        boolean has(int unit) {
            return unit >= 0 && unit < held;
        }

        boolean isFull() {
            return held >= MOST_UNITS;
        }

        int all() {
            return (1 << held) - 1;
        }

        int add(int size, int weight, int kind) {
            if (isFull()) {
                return NONE;
            }
            int unit = held;
            sizes[unit] = size;
            weights[unit] = weight;
            kinds[unit] = kind;
            held++;
            return unit;
        }

        int reweigh(int unit, int weight) {
            if (!has(unit)) {
                return NONE;
            }
            int earlier = weights[unit];
            weights[unit] = weight;
            return earlier;
        }

        int relationOf(int unit, int other) {
            if (!has(unit) || !has(other)) {
                return FREE;
            }
            if (holds(apartFrom[unit], other)) {
                return APART;
            }
            return holds(togetherWith[unit], other) ? TOGETHER : FREE;
        }

        void relate(int unit, int other, int how) {
            relateOneWay(unit, other, how);
            relateOneWay(other, unit, how);
        }

        private void relateOneWay(int from, int to, int how) {
            if (!has(from) || !has(to)) {
                return;
            }
            int bit = 1 << to;
            apartFrom[from] &= ~bit;
            togetherWith[from] &= ~bit;
            if (how == APART) {
                apartFrom[from] |= bit;
            } else if (how == TOGETHER) {
                togetherWith[from] |= bit;
            }
        }

        int pairsOf(int how) {
            int pairs = 0;
            for (int unit = 0; unit < held; unit++) {
                for (int other = unit + 1; other < held; other++) {
                    if (relationOf(unit, other) == how) {
                        pairs++;
                    }
                }
            }
            return pairs;
        }

        int sizeOf(int set) {
            return sumOf(sizes, set);
        }

        int weightOf(int set) {
            return sumOf(weights, set);
        }

        private int sumOf(int[] numbers, int set) {
            int sum = 0;
            for (int unit = 0; unit < held; unit++) {
                if (holds(set, unit)) {
                    sum += numbers[unit];
                }
            }
            return sum;
        }

        int kindsOf(int set) {
            int found = 0;
            for (int unit = 0; unit < held; unit++) {
                if (holds(set, unit)) {
                    found |= 1 << kinds[unit];
                }
            }
            return found;
        }

        boolean anyApart(int set) {
            for (int unit = 0; unit < held; unit++) {
                if (holds(set, unit) && (apartFrom[unit] & set) != 0) {
                    return true;
                }
            }
            return false;
        }

        /** Whether each unit that is together with one of the set is in it. */
        boolean isWhole(int set) {
            for (int unit = 0; unit < held; unit++) {
                if (holds(set, unit) && (togetherWith[unit] & ~set) != 0) {
                    return false;
                }
            }
            return true;
        }

        /** A unit with all that are together with it, directly or by others. */
        int companyOf(int unit) {
            if (!has(unit)) {
                return 0;
            }
            int company = 1 << unit;
            // A round that adds nothing ends the growth, so as many rounds as units are enough.
            for (int round = 0; round < held; round++) {
                for (int member = 0; member < held; member++) {
                    if (holds(company, member)) {
                        company |= togetherWith[member];
                    }
                }
            }
            return company;
        }
    }

    /** The boxes that were chosen, in their order, each with its units. */
    private static final class Choice {
        private final int[] boxNumbers = new int[MOST_UNITS];
        private final int[] unitSets = new int[MOST_UNITS];
        private int held;
        private int cost;
        private boolean made;
        private boolean exactly;

        void clear() {
            held = 0;
            cost = 0;
            made = false;
            exactly = false;
        }

        void finish(boolean wasExact) {
            made = true;
            exactly = wasExact;
        }

        boolean has(int i) {
            return i >= 0 && i < held;
        }

        void append(int box, int set, int boxCost) {
            if (held >= MOST_UNITS) {
                return;
            }
            boxNumbers[held] = box;
            unitSets[held] = set;
            held++;
            cost += boxCost;
        }

        void replaceSet(int i, int set) {
            if (has(i)) {
                unitSets[i] = set;
            }
        }

        int boxAt(int i) {
            return has(i) ? boxNumbers[i] : NONE;
        }

        int setAt(int i) {
            return has(i) ? unitSets[i] : 0;
        }

        int holderOf(int unit) {
            for (int i = 0; i < held; i++) {
                if (holds(unitSets[i], unit)) {
                    return i;
                }
            }
            return NONE;
        }
    }

    /**
     * The best way to pack each set of units, built from the best ways of its smaller sets.
     * The first box of a set always has its least unit, which is how boxes are numbered; the rest
     * can then be the best of what is left, as cost, number and order all go box by box.
     */
    private static final class ExactSearch {
        private final int[] offeredBox = new int[EXACT_SETS];
        private final int[] offeredCost = new int[EXACT_SETS];
        private final int[] leastCost = new int[EXACT_SETS];
        private final int[] fewestBoxes = new int[EXACT_SETS];
        private final int[] firstSet = new int[EXACT_SETS];

        void clear() {
            for (int set = 0; set < EXACT_SETS; set++) {
                offeredBox[set] = NONE;
                leastCost[set] = NONE;
            }
            leastCost[0] = 0;
            fewestBoxes[0] = 0;
        }

        /** Tells the one box that a set would come to if it were alone in it. */
        void offer(int set, int box, int boxCost) {
            if (set > 0 && set < EXACT_SETS) {
                offeredBox[set] = box;
                offeredCost[set] = boxCost;
            }
        }

        boolean putBest(int all, Choice choice) {
            if (all < 0 || all >= EXACT_SETS || choice == null) {
                return false;
            }
            for (int set = 1; set <= all; set++) {
                findBest(set);
            }
            if (leastCost[all] == NONE) {
                return false;
            }
            int left = all;
            for (int i = 0; i < MOST_EXACT && left > 0; i++) {
                int first = firstSet[left];
                choice.append(offeredBox[first], first, offeredCost[first]);
                left &= ~first;
            }
            return true;
        }

        private void findBest(int set) {
            int least = set & -set;
            for (int first = least; first <= set; first++) {
                if ((first & ~set) == 0 && (first & least) != 0 && offeredBox[first] != NONE) {
                    tryFirst(set, first);
                }
            }
        }

        private void tryFirst(int set, int first) {
            int rest = set & ~first;
            if (leastCost[rest] == NONE) {
                return;
            }
            int cost = offeredCost[first] + leastCost[rest];
            int number = 1 + fewestBoxes[rest];
            if (isBetter(set, first, cost, number)) {
                leastCost[set] = cost;
                fewestBoxes[set] = number;
                firstSet[set] = first;
            }
        }

        private boolean isBetter(int set, int first, int cost, int number) {
            if (leastCost[set] == NONE) {
                return true;
            }
            if (cost != leastCost[set]) {
                return cost < leastCost[set];
            }
            if (number != fewestBoxes[set]) {
                return number < fewestBoxes[set];
            }
            int box = offeredBox[first];
            int bestBox = offeredBox[firstSet[set]];
            return box != bestBox ? box < bestBox : first < firstSet[set];
        }
    }
}
