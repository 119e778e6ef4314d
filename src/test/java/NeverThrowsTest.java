import java.util.Random;

/** Calls with any arguments in any state: none throws, and what is refused changes nothing that can be asked. */
public final class NeverThrowsTest {
    private static final Due due = new Due();
    /** With the calls that Due.lived() makes, no more than the 512 that are promised. */
    private static final int CALLS_OF_A_LIFE = 440, CALLS_AHEAD_AT_MOST = 150;
    private static final int[] EDGES = {-2147483648, -2147483647, -101, -61, -2, -1, 0, 1, 2, 3, 4, 5, 6, 7, 8, 9, 10, 13, 20, 31, 35,
        36, 41, 59, 60, 61, 99, 100, 999, 1000, 2147483646, 2147483647};

    public static void main(String[] args) {
        for (int k = 0; k < 300; k++) liveOn(k, CALLS_OF_A_LIFE);
        for (int k = 0; k < 1500; k++) refusedChangesNothing(k);
        due.end();
    }

    /** The same seed lives the same life, so twins can be made of it. */
    private static MornMarket liveOn(int seed, int calls) {
        Random random = new Random(seed);
        MornMarket x = random.nextInt(4) == 0 ? new MornMarket() : Due.lived();
        for (int n = 0; n < calls; n++) calls(x, random.nextInt(34), random);
        return x;
    }

    private static void refusedChangesNothing(int seed) {
        int ahead = seed % CALLS_AHEAD_AT_MOST;
        int call = seed % 31;
        long answer = calls(liveOn(seed, ahead), call, new Random(-seed));
        boolean refused = answer == Due.LOST || answer <= -10 || (answer < 0 && answer > -9);
        if (!refused) return;
        boolean namesFaults = call == 0 || call == 10 || call == 22 || call == 24 || call == 25 || call == 28 || call == 30;
        Twins twins = new Twins(due, () -> liveOn(seed, ahead));
        String told = "call " + call + " of life " + seed;
        if (!namesFaults) {
            twins.same(told, x -> calls(x, call, new Random(-seed)), answer);
        } else if (answer != Due.LOST) {
            int fault = answer <= -11 && answer >= -14 ? (int) (-10 - answer) : 0;
            twins.same(told, x -> calls(x, call, new Random(-seed)), answer, fault);
        }
    }

    private static int any(Random random) {
        int kind = random.nextInt(10);
        return kind == 0 ? random.nextInt() : kind < 3 ? EDGES[random.nextInt(EDGES.length)] : random.nextInt(5) - (kind == 4 ? 1 : 0);
    }

    private static long calls(MornMarket x, int call, Random random) {
        int a = any(random);
        int b = any(random);
        int c = any(random);
        int d = any(random);
        int e = any(random);
        switch (call) {
            case 0: return x.market(a, b, c, d);
            case 1: return x.ofMorning(a, b);
            case 2: return x.ofPerson(a, b);
            case 3: return x.fill(a, b);
            case 4: return x.rate(a);
            case 5: return x.fresh(a, b);
            case 6: return x.price(a);
            case 7: return x.sell(a, b);
            case 8: return x.open(a);
            case 9: return x.sleep(a);
            case 10: return x.year(a, b, c, d, e);
            case 11: return x.feast(a);
            case 12: return x.keep(a, b, c);
            case 13: return x.buy(a, b, c);
            case 14: return x.debt(a, b, c);
            case 15: return x.swap(a);
            case 16: return x.reading(a, b, c);
            case 17: return x.back(a);
            case 18: return x.dews(a);
            case 19: return x.kinds(a);
            case 20: return x.takens(a);
            case 21: return x.odds(a, b, c);
            case 22: return x.sheet(a, b, c);
            case 23: return x.lose(a);
            case 24: return x.put(a, b, c);
            case 25: return x.copy(a, b, c, d, e);
            case 26: return x.tell(a);
            case 27: return x.crow(a);
            case 28: return x.as(a, b);
            case 29: return x.many(a);
            case 30: return x.cell(a, b, c);
            case 31: return x.trace();
            case 32: return x.fault();
            default: return x.market(0, 0, 0, 41);
        }
    }
}
