import java.util.Random;

/** Calls with any arguments in any state: none throws, and what is refused changes nothing that can be asked. */
public final class NeverThrowsTest {
    private static final Due due = new Due();
    private static final int[] EDGES = {-2147483648, -2147483647, -101, -61, -2, -1, 0, 1, 2, 3, 4, 5, 6, 7, 8, 9, 10, 13, 20, 31, 35,
        36, 41, 59, 60, 61, 99, 100, 999, 1000, 2147483646, 2147483647};

    public static void main(String[] args) {
        Random random = new Random(34);
        for (int k = 0; k < 300; k++) {
            MornMarket x = random.nextInt(4) == 0 ? new MornMarket() : Due.of(Due.SIX);
            for (int n = 0; n < 512; n++) {
                int call = random.nextInt(34);
                String before = n % 8 == 0 ? all(x) : null;
                long answer = calls(x, call, random);
                boolean refused = answer == Due.LOST || answer <= -10 || (answer < 0 && answer > -9 && call < 31);
                if (before != null && refused && !before.equals(all(x))) due.is("state behind call " + call, 1, 0);
            }
        }
        due.end();
    }

    private static int any(Random random) {
        int kind = random.nextInt(10);
        return kind == 0 ? random.nextInt() : kind < 3 ? EDGES[random.nextInt(EDGES.length)] : random.nextInt(5) - (kind == 4 ? 1 : 0);
    }

    private static long calls(MornMarket x, int call, Random random) {
        int a = any(random);
        int b = any(random);
        int c = any(random);
        int d = any(random);
        int e = any(random);
        switch (call) {
            case 0: return x.market(a, b, c, d);
            case 1: return x.ofMorning(a, b);
            case 2: return x.ofPerson(a, b);
            case 3: return x.fill(a, b);
            case 4: return x.rate(a);
            case 5: return x.fresh(a, b);
            case 6: return x.price(a);
            case 7: return x.sell(a, b);
            case 8: return x.open(a);
            case 9: return x.sleep(a);
            case 10: return x.year(a, b, c, d, e);
            case 11: return x.feast(a);
            case 12: return x.keep(a, b, c);
            case 13: return x.buy(a, b, c);
            case 14: return x.debt(a, b, c);
            case 15: return x.swap(a);
            case 16: return x.reading(a, b, c);
            case 17: return x.back(a);
            case 18: return x.dews(a);
            case 19: return x.kinds(a);
            case 20: return x.takens(a);
            case 21: return x.odds(a, b, c);
            case 22: return x.sheet(a, b, c);
            case 23: return x.lose(a);
            case 24: return x.put(a, b, c);
            case 25: return x.copy(a, b, c, d, e);
            case 26: return x.tell(a);
            case 27: return x.crow(a);
            case 28: return x.as(a, b);
            case 29: return x.many(a);
            case 30: return x.cell(a, b, c);
            case 31: return x.trace();
            case 32: return x.fault();
            default: return x.market(0, 0, 0, 41);
        }
    }

    /** All that can be asked, but for fault(), which a refused call may change. */
    private static String all(MornMarket x) {
        StringBuilder all = new StringBuilder();
        for (int what = 0; what < 5; what++) all.append(x.many(what)).append(' ');
        for (int m = 0; m < 6; m++) {
            for (int what = 0; what < 5; what++) all.append(x.ofMorning(m, what)).append(' ');
            all.append(x.dews(m)).append(' ').append(x.kinds(m)).append(' ').append(x.takens(m)).append(' ');
        }
        for (int p = 0; p < 4; p++) {
            for (int what = 0; what < 4; what++) all.append(x.ofPerson(p, what)).append(' ');
        }
        all.append(x.trace());
        for (int k = 0; k < 4; k++) {
            for (int lane = 0; lane < 3; lane++) {
                for (int i = 0; i <= 60; i++) all.append(x.cell(k, i, lane)).append(' ').append(x.fault()).append(' ');
            }
        }
        return all.toString();
    }
}
