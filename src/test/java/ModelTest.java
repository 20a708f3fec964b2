import java.util.ArrayList;
import java.util.List;
import java.util.NoSuchElementException;
import java.util.Random;
import java.util.TreeSet;

/**
 * Long mixed runs of calls against a plain model of the document, which tries every choice there is.
 * The random source has a written seed, so each run is the same every time.
 */
public final class ModelTest {
    private static final int RUNS = 1500;
    private static final int CALLS = 400;

    /** The document's words, taken one by one and with no regard to speed. */
    private static final class Model {
        private final List<int[]> boxes = new ArrayList<>();
        private final List<int[]> units = new ArrayList<>();
        private final int[][] how = new int[8][8];
        private int slack = 0;
        private List<int[]> choice = null;
        private boolean exactly = false;

        private void needBox(int box) {
            if (box < 0 || box >= boxes.size()) {
                throw new NoSuchElementException();
            }
        }

        private void needUnit(int unit) {
            if (unit < 0 || unit >= units.size()) {
                throw new NoSuchElementException();
            }
        }

        private static void need(boolean inRange) {
            if (!inRange) {
                throw new IllegalArgumentException();
            }
        }

        private int sum(int set, int part) {
            int sum = 0;
            for (int u = 0; u < units.size(); u++) {
                sum += (set & 1 << u) != 0 ? units.get(u)[part] : 0;
            }
            return sum;
        }

        private boolean takes(int box, int set) {
            for (int u = 0; u < units.size(); u++) {
                if ((set & 1 << u) != 0 && (boxes.get(box)[3] & 1 << units.get(u)[2]) == 0) {
                    return false;
                }
            }
            return true;
        }

        private boolean roomy(int box, int set) {
            return sum(set, 0) <= boxes.get(box)[0] - slack;
        }

        private boolean strong(int box, int set) {
            return sum(set, 1) <= boxes.get(box)[1];
        }

        private boolean peaceful(int set) {
            for (int u = 0; u < units.size(); u++) {
                for (int v = 0; v < units.size(); v++) {
                    if ((set & 1 << u) != 0 && (set & 1 << v) != 0 && how[u][v] == 1) {
                        return false;
                    }
                }
            }
            return true;
        }

        private boolean whole(int set) {
            for (int u = 0; u < units.size(); u++) {
                for (int v = 0; v < units.size(); v++) {
                    if ((set & 1 << u) != 0 && (set & 1 << v) == 0 && how[u][v] == 2) {
                        return false;
                    }
                }
            }
            return true;
        }

        private boolean setFits(int box, int set) {
            return takes(box, set) && roomy(box, set) && strong(box, set) && peaceful(set) && whole(set);
        }

        private int company(int unit) {
            TreeSet<Integer> open = new TreeSet<>(List.of(unit));
            int company = 0;
            while (!open.isEmpty()) {
                int u = open.pollFirst();
                company |= 1 << u;
                for (int v = 0; v < units.size(); v++) {
                    if (how[u][v] == 2 && (company & 1 << v) == 0) {
                        open.add(v);
                    }
                }
            }
            return company;
        }

        private int cost(List<int[]> some) {
            return some.stream().mapToInt(b -> boxes.get(b[0])[2]).sum();
        }

        /** Whether one choice comes before another by the document's order. */
        private boolean before(List<int[]> one, List<int[]> other) {
            if (cost(one) != cost(other)) {
                return cost(one) < cost(other);
            }
            if (one.size() != other.size()) {
                return one.size() < other.size();
            }
            for (int i = 0; i < one.size(); i++) {
                for (int part = 0; part < 2; part++) {
                    if (one.get(i)[part] != other.get(i)[part]) {
                        return one.get(i)[part] < other.get(i)[part];
                    }
                }
            }
            return false;
        }

        private void tryBoxes(List<Integer> sets, List<int[]> taken) {
            if (taken.size() == sets.size()) {
                if (choice == null || before(taken, choice)) {
                    choice = new ArrayList<>(taken);
                }
                return;
            }
            int set = sets.get(taken.size());
            for (int box = 0; box < boxes.size(); box++) {
                if (setFits(box, set)) {
                    taken.add(new int[] {box, set});
                    tryBoxes(sets, taken);
                    taken.remove(taken.size() - 1);
                }
            }
        }

        /** Unit after unit comes to each set so far or opens one, so sets stand in the document's order. */
        private void tryPartitions(int unit, List<Integer> sets) {
            if (unit == units.size()) {
                tryBoxes(sets, new ArrayList<>());
                return;
            }
            for (int i = 0; i < sets.size(); i++) {
                int set = sets.get(i);
                sets.set(i, set | 1 << unit);
                tryPartitions(unit + 1, sets);
                sets.set(i, set);
            }
            sets.add(1 << unit);
            tryPartitions(unit + 1, sets);
            sets.remove(sets.size() - 1);
        }

        private boolean joins(List<int[]> made, int company) {
            for (int[] box : made) {
                if (setFits(box[0], box[1] | company)) {
                    box[1] |= company;
                    return true;
                }
            }
            return false;
        }

        private void byRule() {
            List<int[]> made = new ArrayList<>();
            int placed = 0;
            for (int unit = 0; unit < units.size(); unit++) {
                int company = company(unit);
                if ((placed & 1 << unit) != 0) {
                    continue;
                }
                if (!joins(made, company)) {
                    int best = -1;
                    for (int box = boxes.size() - 1; box >= 0; box--) {
                        if (setFits(box, company) && (best < 0 || boxes.get(box)[2] <= boxes.get(best)[2])) {
                            best = box;
                        }
                    }
                    if (best < 0) {
                        return;
                    }
                    made.add(new int[] {best, company});
                }
                placed |= company;
            }
            choice = made;
        }

        private int choose(int most) {
            need(most >= 0 && most <= 6);
            choice = null;
            exactly = units.size() <= most;
            if (exactly) {
                tryPartitions(0, new ArrayList<>());
            } else {
                byRule();
            }
            return choice == null ? -1 : cost(choice);
        }

        private int box(int[] a) {
            need(a[0] >= 1 && a[0] <= 1000 && a[1] >= 1 && a[1] <= 1000);
            need(a[2] >= 0 && a[2] <= 1000 && a[3] >= 0 && a[3] <= 255);
            if (boxes.size() == 6) {
                throw new UnsupportedOperationException();
            }
            boxes.add(a.clone());
            return boxes.size() - 1;
        }

        private int unit(int[] a) {
            need(a[0] >= 1 && a[0] <= 1000 && a[1] >= 0 && a[1] <= 1000 && a[2] >= 0 && a[2] <= 7);
            if (units.size() == 8) {
                throw new UnsupportedOperationException();
            }
            units.add(a.clone());
            return units.size() - 1;
        }

        private int group(int unit, int other, int now) {
            needUnit(unit);
            needUnit(other);
            need(unit != other && now >= 0 && now <= 2);
            int was = how[unit][other];
            how[unit][other] = now;
            how[other][unit] = now;
            return was;
        }

        private int change(int unit, int weight) {
            needUnit(unit);
            need(weight >= 0 && weight <= 1000);
            int was = units.get(unit)[1];
            units.get(unit)[1] = weight;
            return was;
        }

        private int slack(int s) {
            need(s >= 0 && s <= 1000);
            slack = s;
            return 0;
        }

        private int chosen(int i, int what) {
            if (choice == null || i < 0 || i >= choice.size()) {
                throw new NoSuchElementException();
            }
            need(what >= 0 && what <= 3);
            return what < 2 ? choice.get(i)[what] : sum(choice.get(i)[1], what - 2);
        }

        private int where(int unit) {
            needUnit(unit);
            for (int i = 0; choice != null && i < choice.size(); i++) {
                if ((choice.get(i)[1] & 1 << unit) != 0) {
                    return i;
                }
            }
            return -1;
        }

        private int bar(int unit) {
            needUnit(unit);
            int set = company(unit);
            int reached = 1;
            for (int box = 0; box < boxes.size(); box++) {
                int here = !takes(box, set) ? 1 : !roomy(box, set) ? 2 : !strong(box, set) ? 3 : 4;
                reached = Math.max(reached, here);
            }
            return reached == 4 && peaceful(set) ? 0 : reached;
        }

        private int fits(int box, int unit) {
            needBox(box);
            needUnit(unit);
            return takes(box, 1 << unit) && roomy(box, 1 << unit) && strong(box, 1 << unit) ? 1 : 0;
        }

        private int used(int side) {
            need(side == 0 || side == 1);
            if (choice == null) {
                throw new IllegalStateException();
            }
            if (choice.isEmpty()) {
                throw new ArithmeticException();
            }
            int[] share = new int[2];
            for (int[] box : choice) {
                share[0] += sum(box[1], 0);
                share[1] += boxes.get(box[0])[0];
            }
            for (int d = share[1]; d > 1; d--) {
                if (share[0] % d == 0 && share[1] % d == 0) {
                    return share[side] / d;
                }
            }
            return share[side];
        }

        private int dimensional(int box, int divisor) {
            needBox(box);
            need(divisor >= 0);
            if (divisor == 0) {
                throw new ArithmeticException();
            }
            int answer = 0;
            for (long covered = 0; covered < boxes.get(box)[0]; covered += divisor) {
                answer++;
            }
            return answer;
        }

        private int pairs(int kind) {
            int pairs = 0;
            for (int u = 0; u < 8; u++) {
                for (int v = 0; v < u; v++) {
                    pairs += how[u][v] == kind ? 1 : 0;
                }
            }
            return pairs;
        }

        private int count(int what) {
            int cost = choice == null ? -1 : cost(choice);
            int[] all = {boxes.size(), units.size(), pairs(1), pairs(2), cost};
            return what >= 0 && what < all.length ? all[what] : -1;
        }

        private int answer(int call, int[] a) {
            switch (call) {
                case 0: return box(a);
                case 1: return unit(a);
                case 2: return group(a[0], a[1], a[2]);
                case 3: return change(a[0], a[1]);
                case 4: return slack(a[0]);
                case 5: return choose(a[0]);
                case 6: return choice != null && exactly ? 1 : 0;
                case 7: return choice == null ? -1 : choice.size();
                case 8: return chosen(a[0], a[1]);
                case 9: return where(a[0]);
                case 10: return bar(a[0]);
                case 11: return fits(a[0], a[1]);
                case 12: return used(a[0]);
                case 13: return dimensional(a[0], a[1]);
                default: return count(a[0]);
            }
        }
    }

    private static int answer(BoxChoice x, int call, int[] a) {
        switch (call) {
            case 0: return x.box(a[0], a[1], a[2], a[3]);
            case 1: return x.unit(a[0], a[1], a[2]);
            case 2: return x.group(a[0], a[1], a[2]);
            case 3: return x.change(a[0], a[1]);
            case 4:
                x.slack(a[0]);
                return 0;
            case 5: return x.choose(a[0]);
            case 6: return x.exact() ? 1 : 0;
            case 7: return x.boxes();
            case 8: return x.chosen(a[0], a[1]);
            case 9: return x.where(a[0]);
            case 10: return x.bar(a[0]);
            case 11: return x.fits(a[0], a[1]) ? 1 : 0;
            case 12: return x.used(a[0]);
            case 13: return x.dimensional(a[0], a[1]);
            default: return x.count(a[0]);
        }
    }

    private static final String[] NAMES = {"box", "unit", "group", "change", "slack", "choose", "exact", "boxes",
        "chosen", "where", "bar", "fits", "used", "dimensional", "count"};
    private static final int[] ODD = {-1, Integer.MIN_VALUE, Integer.MAX_VALUE, 0, 1, 7, 8, 32, 255, 256, 1000, 1001};

    private static int wrong = 0;
    private static int choices = 0;
    private static int failures = 0;

    /** Arguments that mostly fall within their range, on a small scale so that many choices tie. */
    private static int[] arguments(Random random, int call, int scale, Model m) {
        int unit = random.nextInt(m.units.size() + 1);
        int box = random.nextInt(m.boxes.size() + 1);
        int[] a = new int[4];
        switch (call) {
            case 0:
                a = new int[] {1 + random.nextInt(4 * scale), 1 + random.nextInt(4 * scale),
                    random.nextInt(1 + 2 * scale), random.nextInt(3) == 0 ? random.nextInt(256) : 255};
                break;
            case 1:
                a = new int[] {1 + random.nextInt(2 * scale), random.nextInt(2 * scale), random.nextInt(8), 0};
                break;
            case 2:
                a = new int[] {unit, random.nextInt(m.units.size() + 1), random.nextInt(3), 0};
                break;
            case 3:
                a = new int[] {unit, random.nextInt(2 * scale), 0, 0};
                break;
            case 4:
                a = new int[] {random.nextInt(scale), 0, 0, 0};
                break;
            case 5:
                a = new int[] {random.nextBoolean() ? 6 : random.nextInt(7), 0, 0, 0};
                break;
            case 8:
                a = new int[] {random.nextInt(5), random.nextInt(4), 0, 0};
                break;
            case 9:
            case 10:
                a = new int[] {unit, 0, 0, 0};
                break;
            case 11:
                a = new int[] {box, unit, 0, 0};
                break;
            case 12:
                a = new int[] {random.nextInt(2), 0, 0, 0};
                break;
            case 13:
                a = new int[] {box, random.nextInt(2 * scale), 0, 0};
                break;
            default:
                a = new int[] {random.nextInt(5), 0, 0, 0};
                break;
        }
        if (random.nextInt(12) == 0) {
            a[random.nextInt(4)] = ODD[random.nextInt(ODD.length)];
        }
        return a;
    }

    private static String told(boolean ofModel, BoxChoice x, Model m, int call, int[] a) {
        try {
            return String.valueOf(ofModel ? m.answer(call, a) : answer(x, call, a));
        } catch (RuntimeException e) {
            return "throws." + e.getClass().getSimpleName();
        }
    }

    private static boolean agree(int run, BoxChoice x, Model m, int call, int[] a) {
        String want = told(true, x, m, call, a);
        String got = told(false, x, m, call, a);
        if (!got.equals(want)) {
            wrong++;
            System.out.println("run " + run + ": " + NAMES[call] + java.util.Arrays.toString(a) + " answered " + got
                + ", due is " + want);
            return false;
        }
        return true;
    }

    /** All that a choice answers, asked right after it was made. */
    private static boolean agreeOnChoice(int run, BoxChoice x, Model m) {
        choices += m.choice == null ? 0 : 1;
        failures += m.choice == null ? 1 : 0;
        boolean same = agree(run, x, m, 6, new int[4]) && agree(run, x, m, 7, new int[4]);
        for (int i = 0; same && i < 9; i++) {
            for (int what = 0; same && what < 4; what++) {
                same = agree(run, x, m, 8, new int[] {i, what, 0, 0});
            }
            same = same && agree(run, x, m, 9, new int[] {i, 0, 0, 0});
        }
        return same && agree(run, x, m, 12, new int[] {0, 0, 0, 0}) && agree(run, x, m, 12, new int[] {1, 0, 0, 0});
    }

    private static void run(int run) {
        Random random = new Random(20261115L + run);
        int scale = new int[] {2, 3, 8, 60, 250}[run % 5];
        // Runs with few units keep to exact choices, the others come to choices by rule too.
        int mostUnits = 2 + run % 7;
        BoxChoice x = new BoxChoice();
        Model m = new Model();
        for (int i = 0; i < CALLS; i++) {
            int call = random.nextInt(NAMES.length);
            if (call == 1 && m.units.size() >= mostUnits && random.nextInt(10) != 0) {
                continue;
            }
            if (call == 4 && random.nextInt(3) != 0 || call == 5 && random.nextInt(2) != 0) {
                continue;
            }
            if (!agree(run, x, m, call, arguments(random, call, scale, m))) {
                return;
            }
            if (call == 5 && !agreeOnChoice(run, x, m)) {
                return;
            }
        }
    }

    public static void main(String[] args) {
        for (int run = 0; run < RUNS; run++) {
            run(run);
        }
        System.out.println(wrong == 0
            ? "all runs are as due, with " + choices + " choices and " + failures + " refused ones"
            : wrong + " runs are not as due");
        if (wrong != 0) {
            System.exit(1);
        }
    }
}
