import java.util.ArrayList;
import java.util.Arrays;
import java.util.List;

/** The document's parts 1 to 4 told once more, by lists and plain trial, to be held against the class. */
final class Model {
    static final int NONE = -9;

    static final class Morning {
        char letter;
        int owner, taken, dew;
        boolean opened;

        int fresh(int day) {
            return fresh(letter, taken, dew, day);
        }

        static int fresh(char letter, int taken, int dew, int day) {
            if (day < taken) return 0;
            int left = dew;
            for (int t = taken + 1; t <= day; t++) {
                if (letter != 'f' || (t - taken) % 3 == 0) left = Math.max(0, left - 1);
            }
            return letter == 'p' ? left / 2 : left;
        }
    }

    int rate, day;
    final List<Integer> purses = new ArrayList<>();
    final List<Integer> joys = new ArrayList<>();
    final List<Integer> openedOn = new ArrayList<>();
    final List<Morning> mornings = new ArrayList<>();
    final List<int[]> readings = new ArrayList<>();

    Model(String text) {
        String[] parts = text.split(";");
        String[] head = parts[0].split(",");
        rate = head[0].charAt(1) - '0';
        for (int p = 1; p < head.length; p++) {
            purses.add(Integer.parseInt(head[p]));
            joys.add(0);
            openedOn.add(-1);
        }
        for (int m = 1; m < parts.length; m++) {
            Morning one = new Morning();
            one.letter = parts[m].charAt(0);
            one.owner = parts[m].charAt(1) - '0';
            one.taken = parts[m].charAt(2) - '0';
            one.dew = parts[m].charAt(3) - '0';
            mornings.add(one);
        }
    }

    Model(Model other) {
        rate = other.rate;
        day = other.day;
        purses.addAll(other.purses);
        joys.addAll(other.joys);
        openedOn.addAll(other.openedOn);
        for (Morning m : other.mornings) {
            Morning one = new Morning();
            one.letter = m.letter;
            one.owner = m.owner;
            one.taken = m.taken;
            one.dew = m.dew;
            one.opened = m.opened;
            mornings.add(one);
        }
    }

    int price(int m) {
        return rate * mornings.get(m).fresh(day);
    }

    boolean sells(int m, int p) {
        Morning one = mornings.get(m);
        if (p >= purses.size() || one.opened || one.owner == p || purses.get(p) < price(m)) return false;
        purses.set(p, purses.get(p) - price(m));
        purses.set(one.owner, purses.get(one.owner) + price(m));
        one.owner = p;
        return true;
    }

    boolean opens(int m) {
        Morning one = mornings.get(m);
        if (one.opened) return false;
        int p = one.owner;
        int joy = one.fresh(day);
        if (openedOn.get(p) == day) joy = joy / 2;
        joys.set(p, joys.get(p) + joy);
        openedOn.set(p, day);
        one.opened = true;
        return true;
    }

    boolean sleeps(int n) {
        if (day + n > 99) return false;
        day += n;
        return true;
    }

    int year(int[] cells, int what) {
        Model then = new Model(this);
        for (int k = 0; k < cells.length; k += 2) {
            int a = cells[k];
            int b = cells[k + 1];
            boolean outside = b == 9 ? a < 0 || a > 9 : !(b >= 0 && b <= 3 || b == 8);
            if (outside) return -2;
            if (b != 9 && (a < 0 || a >= mornings.size())) return -1;
        }
        for (int k = 0; k < cells.length; k += 2) {
            int a = cells[k];
            int b = cells[k + 1];
            boolean can = b == 9 ? then.sleeps(a) : b == 8 ? then.opens(a) : then.sells(a, b);
            if (!can) return what == 1 ? k / 2 : -100 - k / 2;
        }
        int had = 0;
        int opened = 0;
        for (int p = 0; p < joys.size(); p++) had += then.joys.get(p) - joys.get(p);
        for (int m = 0; m < mornings.size(); m++) opened += then.mornings.get(m).opened ? 1 << m : 0;
        int k = what % 10;
        switch (what / 10) {
            case 0: return new int[] {then.day, NONE, opened, had}[what];
            case 1: return k < joys.size() ? then.purses.get(k) : NONE;
            case 2: return k < joys.size() ? then.joys.get(k) - joys.get(k) : NONE;
            default: return k < mornings.size() ? then.mornings.get(k).owner : NONE;
        }
    }

    /** JOY by mornings of these freshnesses, opened on one day from the freshest on. */
    static int joyOf(List<Integer> fresh, boolean openedAhead) {
        List<Integer> sorted = new ArrayList<>(fresh);
        sorted.sort((a, b) -> b - a);
        int joy = 0;
        boolean ahead = openedAhead;
        for (int f : sorted) {
            joy += ahead ? f / 2 : f;
            ahead = true;
        }
        return joy;
    }

    List<Integer> closedOf(int p) {
        List<Integer> theirs = new ArrayList<>();
        for (int m = 0; m < mornings.size(); m++) {
            if (mornings.get(m).owner == p && !mornings.get(m).opened) theirs.add(m);
        }
        return theirs;
    }

    int feast(int p, List<Integer> set) {
        List<Integer> fresh = new ArrayList<>();
        for (int m : set) fresh.add(mornings.get(m).fresh(day));
        return joyOf(fresh, openedOn.get(p) == day);
    }

    /** The best row of days (n: not at all) with its JOY behind it. */
    int[] keep(int p, int n) {
        List<Integer> theirs = closedOf(p);
        int[] best = null;
        int[] row = new int[theirs.size()];
        boolean more = true;
        while (more) {
            int joy = 0;
            for (int d = 0; d < n; d++) {
                List<Integer> fresh = new ArrayList<>();
                for (int k = 0; k < row.length; k++) {
                    if (row[k] == d) fresh.add(mornings.get(theirs.get(k)).fresh(day + d));
                }
                joy += joyOf(fresh, d == 0 && openedOn.get(p) == day);
            }
            if (best == null || joy > best[6]) {
                best = new int[] {NONE, NONE, NONE, NONE, NONE, NONE, joy};
                for (int k = 0; k < row.length; k++) best[theirs.get(k)] = row[k] == n ? NONE : row[k];
            }
            int k = row.length - 1;
            while (k >= 0 && row[k] == n) row[k--] = 0;
            more = k >= 0;
            if (more) row[k]++;
        }
        return best;
    }

    static List<Integer> listOf(int set) {
        List<Integer> list = new ArrayList<>();
        for (int m = 0; m < 6; m++) if ((set >> m & 1) == 1) list.add(m);
        return list;
    }

    int pence(List<Integer> set) {
        int sum = 0;
        for (int m : set) sum += price(m);
        return sum;
    }

    int[] buy(int p, int v) {
        List<int[]> all = new ArrayList<>();
        for (int set = 0; set < 1 << mornings.size(); set++) {
            List<Integer> list = listOf(set);
            boolean fits = true;
            for (int m : list) fits &= mornings.get(m).owner != p && !mornings.get(m).opened;
            List<Integer> with = closedOf(p);
            with.addAll(list);
            if (fits && pence(list) <= purses.get(p) && feast(p, with) >= v) all.add(new int[] {pence(list), list.size(), set});
        }
        all.sort(Arrays::compare);
        return all.isEmpty() ? new int[] {NONE, NONE} : new int[] {all.get(0)[0], all.get(0)[2]};
    }

    int[] debt(int p, int v) {
        List<int[]> all = new ArrayList<>();
        List<Integer> theirs = closedOf(p);
        for (int set = 0; set < 1 << mornings.size(); set++) {
            List<Integer> list = listOf(set);
            if (!theirs.containsAll(list) || pence(list) < v) continue;
            List<Integer> rest = new ArrayList<>(theirs);
            rest.removeAll(list);
            all.add(new int[] {-feast(p, rest), list.size(), set});
        }
        all.sort(Arrays::compare);
        return all.isEmpty() ? new int[] {NONE, NONE} : new int[] {-all.get(0)[0], all.get(0)[2]};
    }

    int[] swap() {
        List<int[]> all = new ArrayList<>();
        for (int a = 0; a < mornings.size(); a++) {
            for (int b = a + 1; b < mornings.size(); b++) {
                int p = mornings.get(a).owner;
                int q = mornings.get(b).owner;
                if (p == q || mornings.get(a).opened || mornings.get(b).opened) continue;
                Model then = new Model(this);
                then.mornings.get(a).owner = q;
                then.mornings.get(b).owner = p;
                int moreP = then.feast(p, then.closedOf(p)) - feast(p, closedOf(p));
                int moreQ = then.feast(q, then.closedOf(q)) - feast(q, closedOf(q));
                if (moreP >= 0 && moreQ >= 0 && moreP + moreQ >= 1) all.add(new int[] {-moreP - moreQ, a, b});
            }
        }
        all.sort(Arrays::compare);
        return all.isEmpty() ? new int[] {NONE, NONE, NONE} : new int[] {-all.get(0)[0], all.get(0)[1], all.get(0)[2]};
    }

    boolean readingsAreSo() {
        for (int[] r : readings) if (mornings.get(r[0]).fresh(r[1]) != r[2]) return false;
        return true;
    }

    int dews(int m) {
        Morning one = mornings.get(m);
        int was = one.dew;
        int set = 0;
        for (one.dew = 0; one.dew <= 9; one.dew++) if (readingsAreSo()) set += 1 << one.dew;
        one.dew = was;
        return set;
    }

    int kinds(int m) {
        Morning one = mornings.get(m);
        char was = one.letter;
        int set = 0;
        for (int k = 0; k < 3; k++) {
            one.letter = "cfp".charAt(k);
            if (readingsAreSo()) set += 1 << k;
        }
        one.letter = was;
        return set;
    }

    int takens(int m) {
        Morning one = mornings.get(m);
        int was = one.taken;
        int set = 0;
        for (one.taken = 0; one.taken <= 9; one.taken++) if (readingsAreSo()) set += 1 << one.taken;
        one.taken = was;
        return set;
    }

    long[] odds(int p, int v) {
        List<Integer> theirs = closedOf(p);
        long upper = 0;
        long lower = 1L << theirs.size();
        for (int spoilt = 0; spoilt < lower; spoilt++) {
            List<Integer> fresh = new ArrayList<>();
            for (int k = 0; k < theirs.size(); k++) {
                fresh.add((spoilt >> k & 1) == 1 ? 0 : mornings.get(theirs.get(k)).fresh(day));
            }
            if (joyOf(fresh, openedOn.get(p) == day) >= v) upper++;
        }
        long a = upper;
        long b = lower;
        while (b != 0) {
            long rest = a % b;
            a = b;
            b = rest;
        }
        return new long[] {upper / a, lower / a};
    }
}
