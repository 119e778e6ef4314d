/** The ends of promises 18 to 23: none, 8 and a ninth READING, sets from the empty to the full one, shares from 0 to 1. */
public final class ReadingsBoundsTest {
    private static final Due due = new Due();
    private static final Twins lived = new Twins(due, Due::lived);
    private static final Twins full = lived.with(ReadingsBoundsTest::fillUp);

    public static void main(String[] args) {
        readingUnknown();
        readingOutside();
        readingFull();
        readingsOfEachDayAndFreshness();
        back();
        backOfAll();
        setsOfNoMorning();
        dews();
        kinds();
        takens();
        readingsOfOtherMornings();
        readingsStayAsMorningsDo();
        oddsLost();
        oddsFromNoneToAll();
        oddsInLeastTerms();
        oddsOfHalves();
        due.end();
    }

    private static long fillUp(MornMarket x) {
        for (int k = 3; k < 8; k++) x.reading(4, 3 * k, Math.max(0, 6 - k));
        return x.many(4);
    }

    private static void readingUnknown() {
        for (int m : Due.beyond(0, 5)) {
            lived.same("reading of MORNING " + m, x -> x.reading(m, 0, 0), -1);
            lived.same("UNKNOWN ahead of OUTSIDE: t", x -> x.reading(m, 100, 0), -1);
            lived.same("UNKNOWN ahead of OUTSIDE: v", x -> x.reading(m, 0, 10), -1);
            full.same("UNKNOWN ahead of FULL", x -> x.reading(m, 0, 0), -1);
        }
    }

    private static void readingOutside() {
        for (int t : Due.beyond(0, 99)) {
            lived.same("reading on DAY " + t, x -> x.reading(0, t, 0), -2);
            full.same("OUTSIDE ahead of FULL: t", x -> x.reading(0, t, 0), -2);
        }
        for (int v : Due.beyond(0, 9)) {
            lived.same("reading of " + v, x -> x.reading(0, 0, v), -2);
            full.same("OUTSIDE ahead of FULL: v", x -> x.reading(0, 0, v), -2);
        }
    }

    private static void readingFull() {
        MornMarket x = Due.of(Due.SIX);
        for (int k = 0; k < 8; k++) {
            due.is("READINGS ahead of it", x.many(4), k);
            due.is("READING " + k, x.reading(0, k, 9 - k), k);
        }
        due.is("8 READINGS", x.many(4), 8);
        due.is("a ninth", x.reading(0, 8, 1), -4);
        due.is("8 READINGS still", x.many(4), 8);
        full.same("8 READINGS", y -> y.many(4), 8);
        for (int k = 0; k < 6; k++) {
            int m = k;
            full.same("FULL", y -> y.reading(m, 0, 0), -4);
            full.same("FULL", y -> y.reading(m, 99, 9), -4);
        }
        due.is("one is taken back", x.back(1), 7);
        due.is("room for one", x.reading(0, 8, 1), 7);
        due.is("and no more", x.reading(0, 8, 1), -4);
    }

    private static void readingsOfEachDayAndFreshness() {
        MornMarket x = Due.of("m1,00;c009;f099");
        due.is("on DAY 0", x.reading(0, 0, 9), 0);
        due.is("DEWS", x.dews(0), 1 << 9);
        x.back(1);
        due.is("on DAY 99", x.reading(0, 99, 0), 0);
        due.is("DEWS", x.dews(0), 1023);
        x.back(1);
        due.is("on DAY 99, which can't be", x.reading(0, 99, 1), 0);
        due.is("DEWS", x.dews(0), 0);
        x.back(1);
        due.is("of 0", x.reading(0, 5, 0), 0);
        due.is("DEWS", x.dews(0), 63);
        x.back(1);
        due.is("of 9", x.reading(1, 9, 9), 0);
        due.is("DEWS", x.dews(1), 1 << 9);
        due.is("of the last MORNING", x.reading(1, 12, 8), 1);
        due.is("DEWS", x.dews(1), 1 << 9);
    }

    private static void back() {
        for (int k : Due.beyond(0, 3)) lived.same("back of " + k + " of three", x -> x.back(k), -2);
        for (int k : Due.beyond(0, 8)) full.same("back of " + k + " of eight", x -> x.back(k), -2);
        lived.same("back of none", x -> x.back(0), 3);
        full.same("back of none of eight", x -> x.back(0), 8);
        for (int k = 0; k <= 3; k++) {
            MornMarket x = Due.lived();
            due.is("back of " + k + " of three", x.back(k), 3 - k);
            due.is("how many are left", x.many(4), 3 - k);
        }
    }

    private static void backOfAll() {
        MornMarket x = Due.of("m1,00;c005");
        for (int k = 0; k < 8; k++) x.reading(0, 0, 5);
        due.is("back of all eight", x.back(8), 0);
        due.is("DEWS without READINGS", x.dews(0), 1023);
        due.is("back of one of none", x.back(1), -2);
        due.is("back of none of none", x.back(0), 0);
        due.is("the first number again", x.reading(0, 1, 4), 0);
        x.back(1);
        for (int k = 0; k < 4; k++) x.reading(0, 0, k < 2 ? 5 : 6);
        due.is("DEWS by READINGS that can't all be", x.dews(0), 0);
        due.is("back of the last one", x.back(1), 3);
        due.is("the last but one stays", x.dews(0), 0);
        due.is("back of one more", x.back(1), 2);
        due.is("the first ones stay", x.dews(0), 32);
    }

    private static void setsOfNoMorning() {
        for (int m : Due.beyond(0, 5)) {
            lived.same("dews of MORNING " + m, x -> x.dews(m), -1);
            lived.same("kinds of MORNING " + m, x -> x.kinds(m), -1);
            lived.same("takens of MORNING " + m, x -> x.takens(m), -1);
        }
        int[] dews = {1 << 9, 1 << 7, 1 << 8 | 1 << 9, 1023, 1023, 1023};
        int[] kinds = {1, 2, 4, 7, 7, 7};
        int[] takens = {1, 1 | 1 << 1, 1 | 1 << 1, 1023, 1023, 1023};
        for (int k = 0; k < 6; k++) {
            int m = k;
            lived.same("dews(" + m + ")", x -> x.dews(m), dews[m]);
            lived.same("kinds(" + m + ")", x -> x.kinds(m), kinds[m]);
            lived.same("takens(" + m + ")", x -> x.takens(m), takens[m]);
        }
    }

    private static int by(String text, int asked, int... readings) {
        MornMarket x = Due.of(text);
        for (int k = 0; k + 1 < readings.length; k += 2) x.reading(0, readings[k], readings[k + 1]);
        return asked == 0 ? x.dews(0) : asked == 1 ? x.kinds(0) : x.takens(0);
    }

    private static void dews() {
        due.is("all without READINGS", by("m1,00;c005", 0), 1023);
        due.is("all, ahead of its DAY", by("m1,00;c055", 0, 4, 0), 1023);
        due.is("none, ahead of its DAY", by("m1,00;c055", 0, 4, 1), 0);
        due.is("0 alone, on its DAY", by("m1,00;c055", 0, 5, 0), 1);
        due.is("9 alone, on its DAY", by("m1,00;c055", 0, 5, 9), 512);
        due.is("0 and 1, a DAY since", by("m1,00;c055", 0, 6, 0), 3);
        due.is("0 .. 8, 8 DAYS since", by("m1,00;c055", 0, 13, 0), 511);
        due.is("all, 9 DAYS since", by("m1,00;c055", 0, 14, 0), 1023);
        due.is("9 alone, 8 DAYS since", by("m1,00;c055", 0, 13, 1), 512);
        due.is("none, 9 DAYS since", by("m1,00;c055", 0, 14, 1), 0);
        due.is("none, as no DEW is 10", by("m1,00;c055", 0, 6, 9), 0);
        due.is("FROST, 2 DAYS since", by("m1,00;f055", 0, 7, 0), 1);
        due.is("FROST, 3 DAYS since", by("m1,00;f055", 0, 8, 0), 3);
        due.is("PAINTED, cut halves", by("m1,00;p055", 0, 5, 4), 768);
        due.is("PAINTED, the least", by("m1,00;p055", 0, 5, 0), 3);
        due.is("PAINTED, none", by("m1,00;p055", 0, 5, 5), 0);
        due.is("one of two is not so", by("m1,00;c055", 0, 5, 3, 6, 3), 0);
        due.is("the last of eight is not so", by("m1,00;c055", 0, 5, 3, 5, 3, 5, 3, 5, 3, 5, 3, 5, 3, 5, 3, 5, 4), 0);
    }

    private static void kinds() {
        due.is("all without READINGS", by("m1,00;c005", 1), 7);
        due.is("all, ahead of its DAY", by("m1,00;p055", 1, 4, 0), 7);
        due.is("none, ahead of its DAY", by("m1,00;p055", 1, 4, 5), 0);
        due.is("CLEAR and FROST on its DAY", by("m1,00;p055", 1, 5, 5), 3);
        due.is("PAINTED on its DAY", by("m1,00;c055", 1, 5, 2), 4);
        due.is("CLEAR and FROST differ a DAY since", by("m1,00;p055", 1, 6, 5), 2);
        due.is("CLEAR a DAY since", by("m1,00;p055", 1, 6, 4), 1);
        due.is("CLEAR and PAINTED, all spoilt", by("m1,00;f055", 1, 10, 0), 5);
        due.is("all are spoilt", by("m1,00;f055", 1, 20, 0), 7);
        due.is("none, the other DAYS", by("m1,00;f055", 1, 5, 9), 0);
        due.is("all alike without DEW", by("m1,00;f050", 1, 5, 0), 7);
        due.is("PAINTED: half of 1, cut", by("m1,00;c051", 1, 5, 0), 4);
    }

    private static void takens() {
        due.is("all without READINGS", by("m1,00;c005", 2), 1023);
        due.is("DAY 0 alone", by("m1,00;c055", 2, 0, 5), 1);
        due.is("all but DAY 0", by("m1,00;c055", 2, 0, 0), 1022);
        due.is("DAY 9 alone", by("m1,00;c055", 2, 9, 5), 512);
        due.is("DAYS 9 and 8 since", by("m1,00;c055", 2, 13, 1), 512);
        due.is("all are spoilt on DAY 14", by("m1,00;c055", 2, 14, 0), 1023);
        due.is("all but DAY 9 on DAY 13", by("m1,00;c055", 2, 13, 0), 511);
        due.is("none, as no DAY is 10", by("m1,00;c055", 2, 10, 5), 0);
        due.is("FROST, three DAYS alike", by("m1,00;f055", 2, 9, 4), 1 << 6 | 1 << 5 | 1 << 4);
        due.is("PAINTED, two DAYS alike", by("m1,00;p055", 2, 9, 1), 1 << 7 | 1 << 6);
        due.is("none is so FRESH", by("m1,00;c055", 2, 5, 6), 0);
        due.is("all, without DEW", by("m1,00;c050", 2, 5, 0), 1023);
    }

    private static void readingsOfOtherMornings() {
        MornMarket x = Due.of("m1,00;c005;c005;c005");
        x.reading(1, 0, 5);
        due.is("one of another that is so", x.dews(0), 1023);
        x.reading(2, 0, 4);
        due.is("DEWS by one of another that is not so", x.dews(0), 0);
        due.is("KINDS by one of another that is not so", x.kinds(0), 0);
        due.is("TAKENS by one of another that is not so", x.takens(0), 0);
        due.is("DEWS of that one", x.dews(2), 16);
        due.is("in place of what it is alone: no other kind makes it so", x.kinds(2), 0);
        due.is("nor another DAY", x.takens(2), 0);
    }

    private static void readingsStayAsMorningsDo() {
        Twins ready = lived.with(x -> x.sleep(9) + x.open(0));
        ready.same("OPENED or not, on whatever DAY", x -> x.dews(0), 1 << 9);
        ready.same("READINGS stay", x -> x.many(4), 3);
    }

    private static void oddsLost() {
        for (int p : Due.beyond(0, 2)) lived.same("odds of PERSON " + p, x -> x.odds(p, 0, 0), Due.LOST);
        for (int v : Due.beyond(0, 99)) {
            lived.same("odds of " + v, x -> x.odds(0, v, 0), Due.LOST);
            lived.same("odds of " + v, x -> x.odds(0, v, 1), Due.LOST);
        }
        for (int which : Due.beyond(0, 1)) lived.same("odds, number " + which, x -> x.odds(0, 0, which), Due.LOST);
    }

    private static void oddsAre(String told, Twins twins, int p, int v, int upper, int lower) {
        twins.same(told + ", upper", x -> x.odds(p, v, 0), upper);
        twins.same(told + ", lower", x -> x.odds(p, v, 1), lower);
    }

    private static Twins of(String text) {
        return new Twins(due, () -> Due.of(text));
    }

    private static void oddsFromNoneToAll() {
        oddsAre("0 at least is sure", lived, 0, 0, 1, 1);
        oddsAre("99 can't be", lived, 0, 99, 0, 1);
        oddsAre("just as much as it is", lived, 0, 7, 1, 2);
        oddsAre("one more", lived, 0, 8, 0, 1);
        oddsAre("OPENED ones are in no set", lived, 1, 3, 1, 2);
        oddsAre("the last PERSON's", lived, 2, 7, 1, 4);
        oddsAre("of one without MORNINGS, 0", of("m1,00,00;c009"), 1, 0, 1, 1);
        oddsAre("of one without MORNINGS, 1", of("m1,00,00;c009"), 1, 1, 0, 1);
        oddsAre("of all six", of("m1,00;c009;c009;c009;c009;c009;c009"), 0, 29, 1, 64);
        oddsAre("of any of six", of("m1,00;c009;c009;c009;c009;c009;c009"), 0, 1, 63, 64);
    }

    private static void oddsInLeastTerms() {
        oddsAre("one that is spoilt already doubles both numbers", of("m1,00;c009;c000"), 0, 9, 1, 2);
        oddsAre("2 of 8", of("m1,00;c009;c005;c000"), 0, 11, 1, 4);
        oddsAre("6 of 8", of("m1,00;c009;c009;c000"), 0, 9, 3, 4);
        oddsAre("0 of 64", of("m1,00;c009;c009;c009;c009;c009;c009"), 0, 30, 0, 1);
        oddsAre("64 of 64", of("m1,00;c009;c009;c009;c009;c009;c009"), 0, 0, 1, 1);
        // Two at least of six: 64 - 1 - 6.
        oddsAre("57 of 64", of("m1,00;c009;c009;c009;c009;c009;c009"), 0, 13, 57, 64);
        // Three at least of six: 57 - 15.
        oddsAre("42 of 64", of("m1,00;c009;c009;c009;c009;c009;c009"), 0, 17, 21, 32);
        oddsAre("22 of 64", of("m1,00;c009;c009;c009;c009;c009;c009"), 0, 21, 11, 32);
        oddsAre("7 of 64", of("m1,00;c009;c009;c009;c009;c009;c009"), 0, 25, 7, 64);
    }

    private static void oddsOfHalves() {
        Twins opened = of("m1,00;c009;c005;c000").with(x -> x.open(2));
        oddsAre("halves, as one was OPENED today", opened, 0, 6, 1, 4);
        oddsAre("no more than halves", opened, 0, 7, 0, 1);
        oddsAre("a DAY later", opened.with(x -> x.sleep(1)), 0, 8, 1, 2);
    }
}
