import java.util.ArrayDeque;
import java.util.ArrayList;
import java.util.Arrays;
import java.util.List;
import java.util.NoSuchElementException;
import java.util.TreeMap;
import java.util.TreeSet;

/**
 * The document once more, written without a thought of speed or room and in other ways than the program:
 * the whole state is copied ahead of each act, steps are read from the sittings each time they are asked
 * for, all numbers are big fractions, and days are tried one by one.
 */
final class Oracle {
    static final class Lot {
        int kind;
        int price;
        int day;
        int kilos = -1;
        int depth = 0;
        List<int[]> parts = List.of();

        Lot copy() {
            Lot c = new Lot();
            c.kind = kind;
            c.price = price;
            c.day = day;
            c.kilos = kilos;
            c.depth = depth;
            c.parts = parts;
            return c;
        }
    }

    /** A sitting: its taster, and cups of lot, many and steps. */
    static final class Sitting {
        int taster;
        List<int[]> cups = new ArrayList<>();

        Sitting copy() {
            Sitting c = new Sitting();
            c.taster = taster;
            c.cups.addAll(cups);
            return c;
        }
    }

    static final class State {
        List<Lot> lots = new ArrayList<>();
        int[][] bins = new int[12][2];
        List<Sitting> sittings = new ArrayList<>();
        int[][] wishes = {null, null, null, null};
        int act;

        State copy() {
            State c = new State();
            for (Lot lot : lots) {
                c.lots.add(lot.copy());
            }
            for (int i = 0; i < 12; i++) {
                c.bins[i] = bins[i].clone();
            }
            for (Sitting sitting : sittings) {
                c.sittings.add(sitting.copy());
            }
            c.wishes = wishes.clone();
            return c;
        }
    }

    private State now = new State();
    private final ArrayDeque<State> past = new ArrayDeque<>();
    private List<int[]> parts = new ArrayList<>();
    private String page = "";
    private List<Ratio> shares = List.of();

    private void act(int code) {
        State before = now.copy();
        before.act = code;
        past.push(before);
        if (past.size() > 12) {
            past.removeLast();
        }
    }

    private int print(Ratio n) {
        page = n.toString();
        return page.length();
    }

    private Lot need(int lot) {
        if (lot < 0 || lot >= now.lots.size()) {
            throw new NoSuchElementException();
        }
        return now.lots.get(lot);
    }

    private static void needIndex(int n, int size) {
        if (n < 0 || n >= size) {
            throw new IndexOutOfBoundsException();
        }
    }

    private static void needRange(int n, int low, int high) {
        if (n < low || n > high) {
            throw new IllegalArgumentException();
        }
    }

    int lot(int kind, int price, int day) {
        needRange(kind, 0, 4);
        needRange(price, 0, 9999);
        needRange(day, 0, 9999);
        if (now.lots.size() == 40) {
            return -1;
        }
        act(0);
        return add(kind, price, day);
    }

    private int add(int kind, int price, int day) {
        Lot it = new Lot();
        it.kind = kind;
        it.price = price;
        it.day = day;
        now.lots.add(it);
        return now.lots.size() - 1;
    }

    int weigh(int lot, int bits) {
        need(lot);
        float f = Float.intBitsToFloat(bits);
        if (f < 0) {
            throw new IllegalArgumentException();
        }
        act(1);
        need(lot).kilos = Float.isNaN(f) ? -1 : (int) (f * 10f);
        return need(lot).kilos;
    }

    int put(int bin, int what, int n) {
        needIndex(bin, 12);
        needRange(what, 0, 2);
        if (what == 1) {
            need(n);
        }
        int[] old = now.bins[bin];
        int kind = old[0] == 0 ? -1 : old[0] == 2 ? 8 : need(old[1]).kind;
        act(2);
        now.bins[bin] = new int[] {what, n};
        return kind;
    }

    int look(int bin) {
        needIndex(bin, 12);
        int[] held = now.bins[bin];
        return held[0] == 1 ? held[1] : held[0] == 2 ? -2 : -3;
    }

    int card(int bin) {
        needIndex(bin, 12);
        return now.bins[bin][0] == 2 ? now.bins[bin][1] : 0;
    }

    int about(int lot, int what) {
        Lot it = need(lot);
        needRange(what, 0, 5);
        return new int[] {it.kind, it.price, it.day, it.kilos, it.parts.size(), it.depth}[what];
    }

    int sit(int taster) {
        needIndex(taster, 8);
        if (now.sittings.size() == 60) {
            return -1;
        }
        act(4);
        Sitting s = new Sitting();
        s.taster = taster;
        now.sittings.add(s);
        return now.sittings.size() - 1;
    }

    private static int stepOf(int[] cup, int mark) {
        int n = (cup[2] >>> (8 * (3 - mark))) & 255;
        return n > 127 ? n - 256 : n;
    }

    int pour(int lot, int many, int steps) {
        if (now.sittings.isEmpty()) {
            throw new IllegalStateException();
        }
        if (need(lot).kind == 5) {
            throw new NoSuchElementException();
        }
        needRange(many, -1, 4);
        int[] cup = {lot, many, steps};
        for (int mark = 0; mark < many; mark++) {
            needRange(stepOf(cup, mark), -60, 60);
        }
        Sitting latest = now.sittings.get(now.sittings.size() - 1);
        TreeSet<Integer> names = new TreeSet<>();
        names.add(lot);
        int all = 0;
        for (Sitting s : now.sittings) {
            for (int[] c : s.cups) {
                if (s.taster == latest.taster) {
                    names.add(c[0]);
                    all++;
                }
            }
        }
        if (latest.cups.size() == 10 || all == 24 || names.size() == 7) {
            throw new UnsupportedOperationException();
        }
        act(3);
        now.sittings.get(now.sittings.size() - 1).cups.add(cup);
        return now.sittings.get(now.sittings.size() - 1).cups.size() - 1;
    }

    int count(int what) {
        int cups = 0;
        for (Sitting s : now.sittings) {
            cups += s.cups.size();
        }
        int[] all = {now.lots.size(), now.sittings.size(), cups, parts.size(), page.length(), past.size()};
        return what < 0 || what > 5 ? -1 : all[what];
    }

    // ---- scales ----

    /** The STEPS of a taster for a mark: from, to, how far. */
    private List<int[]> steps(int taster, int mark) {
        List<int[]> steps = new ArrayList<>();
        for (Sitting s : now.sittings) {
            for (int i = 1; s.taster == taster && i < s.cups.size(); i++) {
                int[] cup = s.cups.get(i);
                if (cup[1] < 0 || cup[1] <= mark) {
                    break;
                }
                steps.add(new int[] {s.cups.get(i - 1)[0], cup[0], stepOf(cup, mark)});
            }
        }
        return steps;
    }

    /** For each lot in a step the least lot that it hangs together with. */
    private static TreeMap<Integer, Integer> heads(List<int[]> steps) {
        TreeMap<Integer, Integer> heads = new TreeMap<>();
        for (int[] s : steps) {
            heads.put(s[0], s[0]);
            heads.put(s[1], s[1]);
        }
        for (int turn = 0; turn < 50; turn++) {
            for (int[] s : steps) {
                int least = Math.min(heads.get(s[0]), heads.get(s[1]));
                heads.put(s[0], least);
                heads.put(s[1], least);
            }
        }
        return heads;
    }

    private static TreeMap<Integer, Ratio> scales(List<int[]> steps) {
        TreeMap<Integer, Integer> heads = heads(steps);
        List<Integer> free = new ArrayList<>();
        for (int lot : heads.keySet()) {
            if (heads.get(lot) != lot) {
                free.add(lot);
            }
        }
        int n = free.size();
        Ratio[][] rows = new Ratio[n][n + 1];
        for (Ratio[] row : rows) {
            Arrays.fill(row, Ratio.ZERO);
        }
        // The slope of the sum of squares in each free number is 0.
        for (int[] s : steps) {
            int a = free.indexOf(s[0]);
            int b = free.indexOf(s[1]);
            for (int[] side : new int[][] {{a, -1}, {b, 1}}) {
                if (side[0] >= 0) {
                    Ratio[] row = rows[side[0]];
                    if (a >= 0) {
                        row[a] = row[a].plus(Ratio.of(-side[1]));
                    }
                    if (b >= 0) {
                        row[b] = row[b].plus(Ratio.of(side[1]));
                    }
                    row[n] = row[n].plus(Ratio.of((long) side[1] * s[2]));
                }
            }
        }
        Ratio[] found = solve(rows);
        TreeMap<Integer, Ratio> scales = new TreeMap<>();
        for (int lot : heads.keySet()) {
            int i = free.indexOf(lot);
            scales.put(lot, i < 0 ? Ratio.ZERO : found[i]);
        }
        return scales;
    }

    /** Null if there is not one solution. */
    private static Ratio[] solve(Ratio[][] rows) {
        int n = rows.length;
        for (int k = 0; k < n; k++) {
            int p = k;
            while (p < n && rows[p][k].isZero()) {
                p++;
            }
            if (p == n) {
                return null;
            }
            Ratio[] swap = rows[p];
            rows[p] = rows[k];
            rows[k] = swap;
            for (int i = 0; i < n; i++) {
                if (i != k && !rows[i][k].isZero()) {
                    Ratio by = rows[i][k].over(rows[k][k]);
                    for (int j = k; j <= n; j++) {
                        rows[i][j] = rows[i][j].minus(rows[k][j].times(by));
                    }
                }
            }
        }
        Ratio[] x = new Ratio[n];
        for (int i = 0; i < n; i++) {
            x[i] = rows[i][n].over(rows[i][i]);
        }
        return x;
    }

    private Ratio agreeOf(int taster) {
        Ratio sum = Ratio.ZERO;
        for (int mark = 0; mark < 4; mark++) {
            List<int[]> steps = steps(taster, mark);
            TreeMap<Integer, Ratio> scales = scales(steps);
            for (int[] s : steps) {
                Ratio off = scales.get(s[1]).minus(scales.get(s[0])).minus(Ratio.of(s[2]));
                sum = sum.plus(off.times(off));
            }
        }
        return sum;
    }

    private int loopsOf(int taster) {
        int loops = 0;
        for (int mark = 0; mark < 4; mark++) {
            List<int[]> steps = steps(taster, mark);
            TreeMap<Integer, Integer> heads = heads(steps);
            loops += steps.size() - heads.size() + new TreeSet<>(heads.values()).size();
        }
        return loops;
    }

    private int trustOf(int taster) {
        return loopsOf(taster) == 0 ? 1 : Math.max(1, 60 / Math.max(1, 1 + agreeOf(taster).floor()));
    }

    int taster(int taster, int what) {
        needIndex(taster, 8);
        needRange(what, 0, 3);
        if (what == 0) {
            return trustOf(taster);
        }
        if (what == 1) {
            return loopsOf(taster);
        }
        int cups = 0;
        for (Sitting s : now.sittings) {
            cups += s.taster == taster ? s.cups.size() : 0;
        }
        int steps = 0;
        for (int mark = 0; mark < 4; mark++) {
            steps += steps(taster, mark).size();
        }
        return what == 2 ? cups : steps;
    }

    int hangs(int taster, int mark, int lot) {
        needIndex(taster, 8);
        needIndex(mark, 4);
        need(lot);
        return heads(steps(taster, mark)).getOrDefault(lot, -1);
    }

    int scale(int taster, int mark, int lot) {
        if (hangs(taster, mark, lot) == -1) {
            return -1;
        }
        return print(scales(steps(taster, mark)).get(lot));
    }

    int agree(int taster) {
        needIndex(taster, 8);
        return print(agreeOf(taster));
    }

    /** Null if there is none. */
    private Ratio middleOf(int lot, int mark) {
        Ratio sum = Ratio.ZERO;
        long trusts = 0;
        for (int t = 0; t < 8; t++) {
            List<int[]> steps = steps(t, mark);
            TreeMap<Integer, Integer> heads = heads(steps);
            if (heads.containsKey(0) && heads.containsKey(lot) && heads.get(0).equals(heads.get(lot))) {
                TreeMap<Integer, Ratio> scales = scales(steps);
                int trust = trustOf(t);
                trusts += trust;
                sum = sum.plus(scales.get(lot).minus(scales.get(0)).times(trust));
            }
        }
        return trusts == 0 ? null : sum.over(trusts);
    }

    int middle(int lot, int mark) {
        need(lot);
        needIndex(mark, 4);
        Ratio middle = middleOf(lot, mark);
        return middle == null ? -1 : print(middle);
    }

    // ---- tastes ----

    private static int months(Lot it, int day) {
        int months = 0;
        while (months < 12 && it.day + 30 * (months + 1) <= day) {
            months++;
        }
        return months;
    }

    private Ratio tasteOf(int number, int mark, int day, TreeMap<Integer, Ratio> middles) {
        Lot it = need(number);
        if (it.kind == 5) {
            Ratio sum = Ratio.ZERO;
            long all = 0;
            long smoked = 0;
            for (int[] part : it.parts) {
                sum = sum.plus(tasteOf(part[0], mark, day, middles).times(part[1]));
                all += part[1];
                smoked += need(part[0]).kind == 3 ? part[1] : 0;
            }
            Ratio taste = sum.over(all);
            return mark == 3 ? taste.plus(Ratio.of(smoked, all)) : taste;
        }
        int key = number * 4 + mark;
        if (!middles.containsKey(key)) {
            Ratio middle = middleOf(number, mark);
            middles.put(key, middle == null ? Ratio.ZERO : middle);
        }
        Ratio taste = middles.get(key);
        if (it.kind == 1) {
            return mark == 0 ? taste.times(Ratio.of(3, 2)) : taste;
        }
        if (it.kind >= 2 && mark == 1) {
            taste = taste.plus(Ratio.ONE);
        }
        if (it.kind == 3 && mark == 3) {
            taste = taste.plus(Ratio.of(3));
        }
        if (it.kind == 4 && mark == 2) {
            taste = taste.plus(Ratio.of(months(it, day), 4));
        }
        if (it.kind == 4 && mark == 0) {
            taste = taste.minus(Ratio.of(months(it, day), 8));
        }
        return taste;
    }

    int taste(int lot, int mark, int day) {
        need(lot);
        needIndex(mark, 4);
        needRange(day, 0, 19999);
        return print(tasteOf(lot, mark, day, new TreeMap<>()));
    }

    private void leaves(int lot, TreeSet<Integer> into) {
        into.add(lot);
        for (int[] part : need(lot).parts) {
            leaves(part[0], into);
        }
    }

    int stale(int lot, int n) {
        Lot it = need(lot);
        needRange(n, 0, 99);
        TreeSet<Integer> leaves = new TreeSet<>();
        leaves(lot, leaves);
        TreeMap<Integer, Ratio> middles = new TreeMap<>();
        Ratio[] fresh = new Ratio[4];
        for (int mark = 0; mark < 4; mark++) {
            fresh[mark] = tasteOf(lot, mark, it.day, middles);
        }
        for (int day = it.day; day < it.day + 11000; day++) {
            boolean changed = false;
            for (int leaf : leaves) {
                changed |= months(need(leaf), day) != months(need(leaf), day - 1);
            }
            for (int mark = 0; changed && mark < 4; mark++) {
                Ratio off = tasteOf(lot, mark, day, middles).minus(fresh[mark]).abs();
                if (off.compareTo(Ratio.of(n)) > 0) {
                    return day;
                }
            }
        }
        return -1;
    }

    // ---- blends ----

    int part(int lot, int size) {
        need(lot);
        needRange(size, 1, 1000);
        if (parts.size() == 4) {
            return -1;
        }
        parts.add(new int[] {lot, size});
        return parts.size();
    }

    int blend(int day) {
        int deepest = 0;
        long worth = 0;
        long all = 0;
        for (int[] part : parts) {
            deepest = Math.max(deepest, need(part[0]).depth);
            worth += (long) need(part[0]).price * part[1];
            all += part[1];
        }
        if (parts.isEmpty() || deepest == 2) {
            throw new IllegalStateException();
        }
        needRange(day, 0, 9999);
        if (now.lots.size() == 40) {
            return -1;
        }
        act(5);
        int number = add(5, (int) (worth / all), day);
        need(number).depth = deepest + 1;
        need(number).parts = List.copyOf(parts);
        parts.clear();
        return number;
    }

    int wish(int mark, int low, int high) {
        needIndex(mark, 4);
        needRange(low, -9999, 9999);
        needRange(high, -9999, 9999);
        act(6);
        now.wishes[mark] = low > high ? null : new int[] {low, high};
        return 0;
    }

    int least(int day, int kilos) {
        needRange(day, 0, 19999);
        needRange(kilos, 1, 10000);
        List<Integer> taken = new ArrayList<>();
        for (int[] bin : now.bins) {
            if (bin[0] == 1 && need(bin[1]).kilos > 0 && need(bin[1]).kind != 3
                    && !taken.contains(bin[1]) && taken.size() < 4) {
                taken.add(bin[1]);
            }
        }
        shares = List.of();
        int n = taken.size();
        // Each limit: multiples of the shares, and what their sum is not above.
        List<Ratio[]> limits = new ArrayList<>();
        for (int i = 0; i < n; i++) {
            limits.add(row(n, i, -1, 0));
            limits.add(row(n, i, kilos, need(taken.get(i)).kilos));
        }
        for (int mark = 0; mark < 4; mark++) {
            int[] wish = now.wishes[mark];
            if (wish != null) {
                Ratio[] low = row(n, -1, 0, -wish[0]);
                Ratio[] high = row(n, -1, 0, wish[1]);
                for (int i = 0; i < n; i++) {
                    Ratio taste = tasteOf(taken.get(i), mark, day, new TreeMap<>());
                    int tenths = taste.times(10).plus(Ratio.of(1, 2)).floor();
                    low[i] = Ratio.of(-tenths);
                    high[i] = Ratio.of(tenths);
                }
                limits.add(low);
                limits.add(high);
            }
        }
        if (n > 0) {
            corners(n, limits, taken, new ArrayList<>(), 0);
        }
        return shares.isEmpty() ? -1 : (print(cost(shares, taken)) > 0 ? n : 0);
    }

    private static Ratio[] row(int n, int at, long multiple, long limit) {
        Ratio[] row = new Ratio[n + 1];
        Arrays.fill(row, Ratio.ZERO);
        if (at >= 0) {
            row[at] = Ratio.of(multiple);
        }
        row[n] = Ratio.of(limit);
        return row;
    }

    private Ratio cost(List<Ratio> x, List<Integer> taken) {
        Ratio cost = Ratio.ZERO;
        for (int i = 0; i < x.size(); i++) {
            cost = cost.plus(x.get(i).times(need(taken.get(i)).price));
        }
        return cost;
    }

    /** Tries every choice of one limit less than there are shares, held with nothing to spare. */
    private void corners(int n, List<Ratio[]> limits, List<Integer> taken, List<Ratio[]> tight, int from) {
        if (tight.size() == n - 1) {
            Ratio[][] rows = new Ratio[n][];
            for (int i = 0; i < n - 1; i++) {
                rows[i] = tight.get(i).clone();
            }
            rows[n - 1] = new Ratio[n + 1];
            Arrays.fill(rows[n - 1], Ratio.ONE);
            Ratio[] x = solve(rows);
            if (x != null && holds(x, limits)) {
                List<Ratio> found = List.of(x);
                if (shares.isEmpty() || better(found, taken)) {
                    shares = found;
                }
            }
            return;
        }
        for (int i = from; i < limits.size(); i++) {
            tight.add(limits.get(i));
            corners(n, limits, taken, tight, i + 1);
            tight.remove(tight.size() - 1);
        }
    }

    private static boolean holds(Ratio[] x, List<Ratio[]> limits) {
        for (Ratio[] limit : limits) {
            Ratio sum = Ratio.ZERO;
            for (int i = 0; i < x.length; i++) {
                sum = sum.plus(limit[i].times(x[i]));
            }
            if (sum.compareTo(limit[x.length]) > 0) {
                return false;
            }
        }
        return true;
    }

    private boolean better(List<Ratio> x, List<Integer> taken) {
        int order = cost(shares, taken).compareTo(cost(x, taken));
        for (int i = 0; order == 0 && i < x.size(); i++) {
            order = x.get(i).compareTo(shares.get(i));
        }
        return order > 0;
    }

    int share(int k) {
        return k < 0 || k >= shares.size() ? -1 : print(shares.get(k));
    }

    int undo() {
        if (past.isEmpty()) {
            return -1;
        }
        now = past.pop();
        parts.removeIf(part -> part[0] >= now.lots.size());
        return now.act;
    }

    int octet(int k) {
        return k < 0 || k >= page.length() ? -1 : page.charAt(k);
    }
}
