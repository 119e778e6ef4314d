/** The ends of promises 1 to 8: what is refused or faulty, the last that is taken, and that nothing is changed. */
public final class MarketBoundsTest {
    private static final Due due = new Due();
    private static final Twins lived = new Twins(due, Due::lived);
    private static final Twins onlySheets = new Twins(due, Due::onlySheets);

    public static void main(String[] args) {
        aNewObjectHasNoMarket();
        aNewObjectHasNoRows();
        marketUnknown();
        marketOutside();
        marketCast();
        marketNull();
        marketSize();
        marketIndex();
        marketMakesAllAnew();
        marketBehindAYear();
        ofMorning();
        ofPerson();
        fill();
        rate();
        fresh();
        freshOfEachKind();
        price();
        due.end();
    }

    private static void aNewObjectHasNoMarket() {
        Twins fresh = new Twins(due, MornMarket::new);
        for (int k = 0; k < 5; k++) {
            int what = k;
            fresh.same("many(" + what + ") without a MARKET", x -> x.many(what), 0);
        }
        fresh.same("trace() of a new object", MornMarket::trace, 0);
        due.is("fault() of a new object", new MornMarket().fault(), 0);
        fresh.same("ofMorning without MORNINGS", x -> x.ofMorning(0, 0), -1);
        fresh.same("ofPerson without PEOPLE", x -> x.ofPerson(0, 0), -1);
        fresh.same("fill without PEOPLE", x -> x.fill(0, 0), -1);
        fresh.same("rate without a MARKET", x -> x.rate(1), -3);
        fresh.same("fresh without MORNINGS", x -> x.fresh(0, 0), -1);
        fresh.same("price without MORNINGS", x -> x.price(0), -1);
        fresh.same("sell without MORNINGS", x -> x.sell(0, 0), -1);
        fresh.same("open without MORNINGS", x -> x.open(0), -1);
        fresh.same("sleep without a MARKET", x -> x.sleep(1), -3);
        fresh.same("feast without PEOPLE", x -> x.feast(0), -1);
        fresh.same("keep without PEOPLE", x -> x.keep(0, 1, 0), -1);
        fresh.same("buy without PEOPLE", x -> x.buy(0, 0, 0), -1);
        fresh.same("debt without PEOPLE", x -> x.debt(0, 0, 0), -1);
        fresh.same("swap without a MARKET", x -> x.swap(0), -3);
        fresh.same("reading without MORNINGS", x -> x.reading(0, 0, 0), -1);
        fresh.same("back of no READINGS", x -> x.back(0), 0);
        fresh.same("back of one without READINGS", x -> x.back(1), -2);
        fresh.same("dews without MORNINGS", x -> x.dews(0), -1);
        fresh.same("kinds without MORNINGS", x -> x.kinds(0), -1);
        fresh.same("takens without MORNINGS", x -> x.takens(0), -1);
        fresh.same("odds without PEOPLE", x -> x.odds(0, 0, 0), Due.LOST);
        fresh.same("tell without MORNINGS", x -> x.tell(0), -1);
        fresh.same("crow without MORNINGS", x -> x.crow(0), -1);
        fresh.same("as without MORNINGS", x -> x.as(0, 0), -1, 0);
    }

    private static void aNewObjectHasNoRows() {
        Twins fresh = new Twins(due, MornMarket::new);
        for (int s = 0; s < 4; s++) {
            int k = s;
            fresh.same("lose of nothing", x -> x.lose(k), 0);
            fresh.same("put to nothing", x -> x.put(k, 0, 1), -11, 1);
            fresh.same("copy of nothing", x -> x.copy(k, 0, k, 0, 0), -11, 1);
            for (int l = 0; l < 3; l++) {
                int lane = l;
                fresh.same("cell of nothing", x -> x.cell(k, 0, lane), Due.LOST, 1);
                fresh.same("market of nothing", x -> x.market(k, lane, 0, 0), -11, 1);
                fresh.same("year of nothing", x -> x.year(k, lane, 0, 0, 0), -11, 1);
            }
        }
    }

    private static void marketUnknown() {
        for (int sheet : Due.beyond(0, 3)) {
            lived.same("market of SHEET " + sheet, x -> x.market(sheet, 0, 0, 41), -1, 0);
            lived.same("UNKNOWN ahead of OUTSIDE", x -> x.market(sheet, 3, 0, 41), -1, 0);
            lived.same("UNKNOWN ahead of FAULTS", x -> x.market(sheet, 1, -1, -1), -1, 0);
        }
        int[] codes = "m7,11;p099".chars().toArray();
        for (int k = 0; k < 4; k++) {
            MornMarket x = Due.lived();
            Due.row(x, k, Due.BYTES, codes);
            due.is("market of SHEET " + k, x.market(k, Due.BYTES, 0, 10), 1);
            due.is("its RATE", x.many(3), 7);
        }
    }

    private static void marketOutside() {
        for (int lane : Due.beyond(0, 2)) {
            lived.same("market of lane " + lane, x -> x.market(0, lane, 0, 41), -2, 0);
            lived.same("OUTSIDE ahead of NULL", x -> x.market(3, lane, 0, 0), -2, 0);
            lived.same("OUTSIDE ahead of SIZE", x -> x.market(0, lane, 0, -1), -2, 0);
            lived.same("OUTSIDE ahead of INDEX", x -> x.market(0, lane, -1, 0), -2, 0);
        }
        int[] codes = "m7,11;p099".chars().toArray();
        for (int lane = 0; lane < 3; lane++) {
            MornMarket x = Due.lived();
            Due.row(x, 3, lane, codes);
            due.is("market of lane " + lane, x.market(3, lane, 0, 10), 1);
            due.is("fault() behind it", x.fault(), 0);
        }
    }

    private static void marketCast() {
        for (int k = 0; k < 3; k++) {
            for (int l = 0; l < 3; l++) {
                int sheet = k;
                int lane = l;
                if (sheet == lane) continue;
                lived.same("CAST of " + sheet + " to " + lane, x -> x.market(sheet, lane, 0, 0), -12, 2);
                lived.same("CAST ahead of SIZE", x -> x.market(sheet, lane, 0, -1), -12, 2);
                lived.same("CAST ahead of INDEX", x -> x.market(sheet, lane, 99, 1), -12, 2);
                lived.with(x -> x.sheet(3, sheet, 0)).same("CAST of a row of no cells", x -> x.market(3, lane, 0, 0), -12, 2);
            }
        }
    }

    private static void marketNull() {
        for (int l = 0; l < 3; l++) {
            int lane = l;
            lived.same("nothing is no CAST", x -> x.market(3, lane, 0, 0), -11, 1);
            lived.same("NULL ahead of SIZE", x -> x.market(3, lane, 0, -1), -11, 1);
            lived.same("NULL ahead of INDEX", x -> x.market(3, lane, -1, 1), -11, 1);
            lived.with(x -> x.lose(0)).same("what was lost is no CAST", x -> x.market(0, lane, 0, 41), -11, 1);
            lived.with(x -> x.sheet(3, lane, 0)).same("a row of no cells is not nothing", x -> x.market(3, lane, 0, 0), -100, 0);
        }
    }

    private static void marketSize() {
        for (int n : new int[] {-1, -2, -41, Due.LEAST}) {
            lived.same("market of " + n + " cells", x -> x.market(0, 0, 0, n), -14, 4);
            lived.same("SIZE ahead of INDEX", x -> x.market(0, 0, -1, n), -14, 4);
            lived.same("SIZE ahead of INDEX", x -> x.market(0, 0, 42, n), -14, 4);
        }
        lived.same("no cells are no SIZE", x -> x.market(0, 0, 0, 0), -100, 0);
    }

    private static void marketIndex() {
        for (int i : Due.beyond(0, 41)) {
            lived.same("no cells from " + i + " on", x -> x.market(0, 0, i, 0), -13, 3);
            lived.same("a cell from " + i + " on", x -> x.market(0, 0, i, 1), -13, 3);
            lived.same("most cells from " + i + " on", x -> x.market(0, 0, i, Due.MOST), -13, 3);
        }
        lived.same("no cells from the row's end on", x -> x.market(0, 0, 41, 0), -100, 0);
        lived.same("a cell from the row's end on", x -> x.market(0, 0, 41, 1), -13, 3);
        lived.same("the last cell", x -> x.market(0, 0, 40, 1), -100, 0);
        lived.same("two cells from the last on", x -> x.market(0, 0, 40, 2), -13, 3);
        lived.same("one cell too many", x -> x.market(0, 0, 0, 42), -13, 3);
        lived.same("all cells and one, from the second on", x -> x.market(0, 0, 1, 41), -13, 3);
        lived.same("i and n together wrap", x -> x.market(0, 0, 1, Due.MOST), -13, 3);
        lived.same("INDEX ahead of a FIRST FAULT", x -> x.market(1, 1, 0, 6), -13, 3);
        lived.same("all cells, which are no TEXT", x -> x.market(1, 1, 0, 5), -100, 0);
        due.is("all cells", Due.lived().market(0, 0, 0, 41), 6);
    }

    private static void marketMakesAllAnew() {
        MornMarket x = Due.lived();
        x.market(0, 0, 0, 41);
        due.is("it is DAY 0", x.many(2), 0);
        due.is("no READINGS", x.many(4), 0);
        for (int m = 0; m < 6; m++) {
            due.is("nothing is OPENED", x.ofMorning(m, 4), 0);
            due.is("DEWS without READINGS", x.dews(m), 1023);
        }
        int[] owners = {0, 0, 1, 1, 2, 0};
        for (int m = 0; m < 6; m++) due.is("the OWNERS of the TEXT", x.ofMorning(m, 1), owners[m]);
        int[] purses = {40, 99, 7};
        for (int p = 0; p < 3; p++) {
            due.is("nobody had any JOY", x.ofPerson(p, 1), 0);
            due.is("nobody OPENED one today", x.ofPerson(p, 3), 0);
            due.is("the PURSES of the TEXT", x.ofPerson(p, 0), purses[p]);
        }
        due.is("TRACE is no MARKET's", x.trace(), 63);
        due.is("the SHEETS stay", x.cell(2, 3, 2), Due.LEAST);
        MornMarket y = Due.of("m1,00;c007;c005");
        y.open(0);
        Due.told(y, "m1,00;c007;c005");
        due.is("OPENED on a DAY 0 ahead of this one", y.ofPerson(0, 3), 0);
        due.is("all of it, not half", y.open(1), 5);
        y.put(0, 1, '9');
        due.is("the SHEET's cells are no longer the MARKET's", y.many(3), 1);
        for (int n = 0; n < 8; n++) y.reading(0, 0, 7);
        Due.told(y, "m1,00;c007");
        due.is("no longer FULL", y.reading(0, 0, 7), 0);
    }

    private static void marketBehindAYear() {
        MornMarket x = Due.of("m1,00,00;c007;c105");
        due.is("a YEAR with all in it", Due.yearOf(x, 3, 0, 8, 9, 9, 1, 8), 7);
        Due.told(x, "m1,00,00;c007;c105");
        for (int p = 0; p < 2; p++) {
            due.is("JOY of the YEAR is not had", x.ofPerson(p, 1), 0);
            due.is("nobody OPENED one today", x.ofPerson(p, 3), 0);
        }
        for (int m = 0; m < 2; m++) due.is("nothing is OPENED", x.ofMorning(m, 4), 0);
        due.is("DAYS of the YEAR did not go by", x.many(2), 0);
    }

    private static void ofMorning() {
        for (int m : Due.beyond(0, 5)) {
            lived.same("ofMorning of MORNING " + m, x -> x.ofMorning(m, 0), -1);
            lived.same("UNKNOWN ahead of OUTSIDE", x -> x.ofMorning(m, 5), -1);
        }
        for (int what : Due.beyond(0, 4)) {
            lived.same("ofMorning asked " + what, x -> x.ofMorning(0, what), -2);
            lived.same("ofMorning of the last asked " + what, x -> x.ofMorning(5, what), -2);
        }
        int[][] all = {{0, 1, 0, 9, 0}, {1, 0, 1, 7, 0}, {2, 1, 0, 8, 1}, {0, 1, 2, 5, 1}, {1, 2, 0, 6, 0}, {0, 2, 1, 3, 0}};
        for (int k = 0; k < 30; k++) {
            int m = k / 5;
            int what = k % 5;
            lived.same("ofMorning(" + m + ", " + what + ")", x -> x.ofMorning(m, what), all[m][what]);
        }
        Twins one = new Twins(due, () -> Due.of("m1,00;p099"));
        one.same("the only MORNING", x -> x.ofMorning(0, 2), 9);
        one.same("a second MORNING", x -> x.ofMorning(1, 2), -1);
    }

    private static void ofPerson() {
        for (int p : Due.beyond(0, 2)) {
            lived.same("ofPerson of PERSON " + p, x -> x.ofPerson(p, 0), -1);
            lived.same("UNKNOWN ahead of OUTSIDE", x -> x.ofPerson(p, 4), -1);
        }
        for (int what : Due.beyond(0, 3)) {
            lived.same("ofPerson asked " + what, x -> x.ofPerson(0, what), -2);
            lived.same("ofPerson of the last asked " + what, x -> x.ofPerson(2, what), -2);
        }
        int[][] all = {{62, 0, 1, 0}, {81, 9, 1, 1}, {3, 0, 2, 0}};
        for (int k = 0; k < 12; k++) {
            int p = k / 4;
            int what = k % 4;
            lived.same("ofPerson(" + p + ", " + what + ")", x -> x.ofPerson(p, what), all[p][what]);
        }
        MornMarket x = Due.lived();
        x.open(0);
        due.is("no MORNINGS that are not OPENED", x.ofPerson(1, 2), 0);
        MornMarket four = Due.of("m1,00,11,22,33;c000");
        due.is("the fourth PERSON", four.ofPerson(3, 0), 33);
        due.is("a fifth PERSON", four.ofPerson(4, 0), -1);
    }

    private static void fill() {
        for (int p : Due.beyond(0, 2)) {
            lived.same("fill of PERSON " + p, x -> x.fill(p, 50), -1);
            lived.same("UNKNOWN ahead of OUTSIDE", x -> x.fill(p, 100), -1);
        }
        for (int v : Due.beyond(0, 99)) lived.same("fill of " + v, x -> x.fill(1, v), -2);
        MornMarket x = Due.lived();
        due.is("fill of 0", x.fill(2, 0), 3);
        due.is("fill of 99", x.fill(2, 99), 0);
        due.is("what it became", x.ofPerson(2, 0), 99);
        due.is("another PURSE", x.ofPerson(1, 0), 81);
        Twins rich = new Twins(due, MarketBoundsTest::purseOf180);
        rich.same("a PURSE above 99", y -> y.ofPerson(0, 0), 180);
        rich.same("a PURSE above 99 stays where fill is refused", y -> y.fill(0, 100), -2);
        due.is("what it was, above 99", purseOf180().fill(0, 99), 180);
    }

    private static MornMarket purseOf180() {
        MornMarket x = Due.of("m9,99,99;c009");
        x.sell(0, 1);
        return x;
    }

    private static void rate() {
        for (int v : Due.beyond(1, 9)) {
            lived.same("rate of " + v, x -> x.rate(v), -2);
            onlySheets.same("OUTSIDE ahead of STATE", x -> x.rate(v), -2);
        }
        for (int k = 1; k <= 9; k++) {
            int v = k;
            onlySheets.same("rate of " + v + " without a MARKET", x -> x.rate(v), -3);
        }
        MornMarket x = Due.lived();
        due.is("rate of 1", x.rate(1), 2);
        due.is("rate of 9", x.rate(9), 1);
        due.is("RATE", x.many(3), 9);
        due.is("PRICE by it", x.price(0), 63);
    }

    private static void fresh() {
        for (int m : Due.beyond(0, 5)) {
            lived.same("fresh of MORNING " + m, x -> x.fresh(m, 0), -1);
            lived.same("UNKNOWN ahead of OUTSIDE", x -> x.fresh(m, 100), -1);
        }
        for (int t : Due.beyond(0, 99)) lived.same("fresh on DAY " + t, x -> x.fresh(0, t), -2);
        lived.same("fresh on DAY 0", x -> x.fresh(0, 0), 9);
        lived.same("fresh on DAY 99", x -> x.fresh(0, 99), 0);
        lived.same("an OPENED one", x -> x.fresh(3, 2), 5);
    }

    private static void freshOfEachKind() {
        MornMarket c = Due.of("m1,00;c039;c031;c030;c099");
        due.is("CLEAR, ahead of its DAY", c.fresh(0, 2), 0);
        due.is("CLEAR, on its DAY", c.fresh(0, 3), 9);
        due.is("CLEAR, a DAY since", c.fresh(0, 4), 8);
        due.is("CLEAR, 8 DAYS since", c.fresh(0, 11), 1);
        due.is("CLEAR, 9 DAYS since", c.fresh(0, 12), 0);
        due.is("CLEAR, 0 at least", c.fresh(0, 13), 0);
        due.is("CLEAR with DEW 1 ahead of it", c.fresh(1, 2), 0);
        due.is("CLEAR with DEW 1", c.fresh(1, 3), 1);
        due.is("CLEAR with DEW 1, a DAY since", c.fresh(1, 4), 0);
        due.is("CLEAR with DEW 0", c.fresh(2, 3), 0);
        due.is("CLEAR with DEW 0, 0 at least", c.fresh(2, 4), 0);
        due.is("TAKEN on DAY 9, ahead of it", c.fresh(3, 8), 0);
        due.is("TAKEN on DAY 9", c.fresh(3, 9), 9);
        MornMarket f = Due.of("m1,00;f032;f099");
        int[] frost = {0, 0, 0, 2, 2, 2, 1, 1, 1, 0, 0, 0, 0, 0};
        for (int t = 0; t < frost.length; t++) due.is("FROST on DAY " + t, f.fresh(0, t), frost[t]);
        due.is("FROST, 26 DAYS since", f.fresh(1, 35), 1);
        due.is("FROST, 27 DAYS since", f.fresh(1, 36), 0);
        due.is("FROST, 0 at least", f.fresh(1, 39), 0);
        MornMarket p = Due.of("m1,00;p035;p031");
        int[] painted = {0, 0, 0, 2, 2, 1, 1, 0, 0, 0, 0};
        for (int t = 0; t < painted.length; t++) due.is("PAINTED on DAY " + t, p.fresh(0, t), painted[t]);
        due.is("half of 1, cut", p.fresh(1, 3), 0);
        for (int t = 0; t <= 99; t++) {
            due.is("CLEAR on DAY " + t, c.fresh(0, t), t < 3 ? 0 : Math.max(0, 12 - t));
            due.is("FROST on DAY " + t, f.fresh(1, t), t < 9 ? 0 : Math.max(0, 9 - (t - 9) / 3));
            due.is("PAINTED on DAY " + t, p.fresh(0, t), t < 3 ? 0 : Math.max(0, 8 - t) / 2);
        }
    }

    private static void price() {
        for (int m : Due.beyond(0, 5)) lived.same("price of MORNING " + m, x -> x.price(m), -1);
        int[] prices = {14, 14, 6, 10, 12, 4};
        for (int k = 0; k < 6; k++) {
            int m = k;
            lived.same("price(" + m + ")", x -> x.price(m), prices[m]);
        }
        MornMarket x = Due.of("m9,00;c019");
        due.is("ahead of its DAY it costs nothing", x.price(0), 0);
        x.sleep(1);
        due.is("the highest PRICE", x.price(0), 81);
        x.sleep(8);
        due.is("the last that is not nothing", x.price(0), 9);
        x.sleep(1);
        due.is("spoilt it costs nothing", x.price(0), 0);
        x.sleep(9);
        due.is("nor less than nothing", x.price(0), 0);
    }
}
