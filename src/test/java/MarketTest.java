/** Promises 1 to 8: a market by a text, and what is asked of it. */
public final class MarketTest {
    private static final Due due = new Due();

    public static void main(String[] args) {
        aNewObject();
        firstFaults();
        greatestTexts();
        textsOfOtherLanesAndPlaces();
        refusalsAndFaultsOfMarket();
        aTextMakesAllAnew();
        ofMorning();
        ofPerson();
        fill();
        rate();
        fresh();
        price();
        due.end();
    }

    private static void aNewObject() {
        MornMarket x = new MornMarket();
        for (int what = 0; what <= 4; what++) {
            due.is("new: many", x.many(what), 0);
        }
        due.is("new: trace", x.trace(), 0);
        due.is("new: fault", x.fault(), 0);
        for (int k = 0; k < 4; k++) {
            due.is("new: lose", x.lose(k), 0);
            due.is("new: cell", x.cell(k, 0, 0), Due.LOST);
            due.is("new: fault of cell", x.fault(), 1);
        }
        due.is("new: ofMorning", x.ofMorning(0, 0), -1);
        due.is("new: ofPerson", x.ofPerson(0, 0), -1);
    }

    private static void faulty(String text, int place) {
        MornMarket x = Due.of("m3,11;f024");
        due.is("market of '" + text + "'", Due.told(x, text), -100 - place);
        due.is("fault behind '" + text + "'", x.fault(), 0);
        due.is("RATE behind '" + text + "'", x.many(3), 3);
        due.is("MORNINGS behind '" + text + "'", x.many(0), 1);
        due.is("PEOPLE behind '" + text + "'", x.many(1), 1);
        due.is("PURSE behind '" + text + "'", x.ofPerson(0, 0), 11);
        due.is("kind behind '" + text + "'", x.ofMorning(0, 0), 1);
        due.is("DEW behind '" + text + "'", x.ofMorning(0, 3), 4);
    }

    private static void firstFaults() {
        faulty("", 0);
        faulty("M5,01;c000", 0);
        faulty("5,01;c000", 0);
        faulty("m", 1);
        faulty("m0,01;c000", 1);
        faulty("m:,01;c000", 1);
        faulty("m5", 2);
        faulty("m5;c000", 2);
        faulty("m55,01;c000", 2);
        faulty("m5,", 3);
        faulty("m5,/1;c000", 3);
        faulty("m5,0", 4);
        faulty("m5,0:;c000", 4);
        faulty("m5,01", 5);
        faulty("m5,012;c000", 5);
        faulty("m5,01,", 6);
        faulty("m5,01,;c000", 6);
        faulty("m5,01,02", 8);
        faulty("m5,01,02,03,04,05;c000", 14);
        faulty("m5,01,02,03,04", 14);
        faulty("m5,01;", 6);
        faulty("m5,01;x000", 6);
        faulty("m5,01;C000", 6);
        faulty("m5,01;0000", 6);
        faulty("m5,01;c", 7);
        faulty("m5,01;c100", 7);
        faulty("m5,01,01;c200", 10);
        faulty("m5,01;c/00", 7);
        faulty("m5,01;c0", 8);
        faulty("m5,01;c0/0", 8);
        faulty("m5,01;c0:0", 8);
        faulty("m5,01;c00", 9);
        faulty("m5,01;c00:", 9);
        faulty("m5,01;c000,02", 10);
        faulty("m5,01;c0000", 10);
        faulty("m5,01;c000 ", 10);
        faulty("m5,01;c000;", 11);
        faulty("m5,01;c000;f111", 12);
        faulty("m5,01;c000;c000;c000;c000;c000;c000;c000", 35);
        faulty("m5,01;c000;c000;c000;c000;c000;c000;", 35);
        faulty("m5,01;c000;c000;c000;c000;c000;c000,", 35);
    }

    private static void greatestTexts() {
        MornMarket x = new MornMarket();
        due.is("greatest text", Due.told(x, "m9,00,09,90,99;c000;f199;p290;c309;f055;p107"), 6);
        due.is("its MORNINGS", x.many(0), 6);
        due.is("its PEOPLE", x.many(1), 4);
        due.is("its RATE", x.many(3), 9);
        due.is("first PURSE", x.ofPerson(0, 0), 0);
        due.is("second PURSE", x.ofPerson(1, 0), 9);
        due.is("third PURSE", x.ofPerson(2, 0), 90);
        due.is("fourth PURSE", x.ofPerson(3, 0), 99);
        due.is("fourth MORNING's OWNER", x.ofMorning(3, 1), 3);
        due.is("least text", Due.told(x, "m1,00;p000"), 1);
        due.is("its PEOPLE", x.many(1), 1);
        due.is("its RATE", x.many(3), 1);
    }

    private static void textsOfOtherLanesAndPlaces() {
        MornMarket x = new MornMarket();
        int[] codes = "..m4,50;c012..".chars().toArray();
        Due.row(x, 2, Due.SHORTS, codes);
        due.is("text of shorts", x.market(2, Due.SHORTS, 2, 10), 1);
        due.is("its RATE", x.many(3), 4);
        due.is("too short", x.market(2, Due.SHORTS, 2, 9), -109);
        due.is("too long", x.market(2, Due.SHORTS, 2, 11), -110);
        Due.row(x, 3, Due.INTS, codes);
        due.is("text of ints", x.market(3, Due.INTS, 2, 10), 1);
        x.put(3, 2, 256 + 'm');
        due.is("an int that is no m", x.market(3, Due.INTS, 2, 10), -100);
        x.put(3, 2, 65536 + 'm');
        due.is("an int that is no m", x.market(3, Due.INTS, 2, 10), -100);
        Due.row(x, 0, Due.BYTES, codes);
        x.put(0, 2, 256 + 'm');
        due.is("cut to a byte it is m", x.market(0, Due.BYTES, 2, 10), 1);
    }

    private static void faultOfMarket(MornMarket x, int sheet, int lane, int i, int n, int answer, int fault) {
        String call = "market(" + sheet + ", " + lane + ", " + i + ", " + n + ")";
        due.is(call, x.market(sheet, lane, i, n), answer);
        due.is("fault behind " + call, x.fault(), fault);
        due.is("MORNINGS behind " + call, x.many(0), 6);
    }

    private static void refusalsAndFaultsOfMarket() {
        MornMarket x = Due.of(Due.SIX);
        int least = Integer.MIN_VALUE;
        int most = Integer.MAX_VALUE;
        faultOfMarket(x, -1, 9, 0, 41, -1, 0);
        faultOfMarket(x, 4, 0, 0, 41, -1, 0);
        faultOfMarket(x, most, 0, 0, 41, -1, 0);
        faultOfMarket(x, 0, -1, 0, -1, -2, 0);
        faultOfMarket(x, 0, 3, 0, 41, -2, 0);
        faultOfMarket(x, 1, 3, 0, 41, -2, 0);
        faultOfMarket(x, 0, 1, 0, -1, -12, 2);
        faultOfMarket(x, 0, 2, 0, 41, -12, 2);
        faultOfMarket(x, 1, 2, 0, -1, -11, 1);
        faultOfMarket(x, 0, 0, 0, -1, -14, 4);
        faultOfMarket(x, 0, 0, -1, -1, -14, 4);
        faultOfMarket(x, 0, 0, 99, least, -14, 4);
        faultOfMarket(x, 0, 0, -1, 0, -13, 3);
        faultOfMarket(x, 0, 0, 42, 0, -13, 3);
        faultOfMarket(x, 0, 0, 41, 0, -100, 0);
        faultOfMarket(x, 0, 0, 0, 0, -100, 0);
        faultOfMarket(x, 0, 0, 0, 42, -13, 3);
        faultOfMarket(x, 0, 0, 1, 41, -13, 3);
        faultOfMarket(x, 0, 0, most, most, -13, 3);
        faultOfMarket(x, 0, 0, 1, most, -13, 3);
        faultOfMarket(x, 0, 0, least, 1, -13, 3);
        faultOfMarket(x, 0, 0, 0, 41, 6, 0);
    }

    private static void aTextMakesAllAnew() {
        MornMarket x = Due.of(Due.SIX);
        x.sell(0, 1);
        x.open(2);
        x.reading(0, 0, 9);
        x.sleep(3);
        x.tell(0);
        x.rate(7);
        due.is("market anew", Due.told(x, Due.SIX), 6);
        due.is("DAY anew", x.many(2), 0);
        due.is("RATE anew", x.many(3), 2);
        due.is("READINGS anew", x.many(4), 0);
        due.is("OPENED anew", x.ofMorning(2, 4), 0);
        due.is("OWNER anew", x.ofMorning(0, 1), 0);
        due.is("JOY anew", x.ofPerson(1, 1), 0);
        due.is("OPENED today anew", x.ofPerson(1, 3), 0);
        due.is("PURSE anew", x.ofPerson(1, 0), 99);
        due.is("TRACE is none of it", x.trace(), 1);
        due.is("a lesser market", Due.told(x, "m1,00;p000"), 1);
        due.is("no second MORNING", x.ofMorning(1, 0), -1);
        due.is("no second PERSON", x.ofPerson(1, 0), -1);
    }

    private static void ofMorning() {
        MornMarket x = Due.of(Due.SIX);
        int[][] all = {{0, 0, 0, 9, 0}, {1, 0, 1, 7, 0}, {2, 1, 0, 8, 0}, {0, 1, 2, 5, 0}, {1, 2, 0, 6, 0}, {0, 0, 1, 3, 0}};
        for (int m = 0; m < 6; m++) {
            for (int what = 0; what < 5; what++) {
                due.is("ofMorning(" + m + ", " + what + ")", x.ofMorning(m, what), all[m][what]);
            }
            due.is("ofMorning what -1", x.ofMorning(m, -1), -2);
            due.is("ofMorning what 5", x.ofMorning(m, 5), -2);
        }
        due.is("ofMorning -1", x.ofMorning(-1, 9), -1);
        due.is("ofMorning 6", x.ofMorning(6, 9), -1);
        x.open(3);
        due.is("ofMorning OPENED", x.ofMorning(3, 4), 1);
        due.is("ofMorning not OPENED", x.ofMorning(2, 4), 0);
        x.sell(4, 1);
        due.is("ofMorning SOLD", x.ofMorning(4, 1), 1);
    }

    private static void ofPerson() {
        MornMarket x = Due.of(Due.SIX);
        int[][] all = {{40, 0, 3, 0}, {99, 0, 2, 0}, {7, 0, 1, 0}};
        for (int p = 0; p < 3; p++) {
            for (int what = 0; what < 4; what++) {
                due.is("ofPerson(" + p + ", " + what + ")", x.ofPerson(p, what), all[p][what]);
            }
            due.is("ofPerson what -1", x.ofPerson(p, -1), -2);
            due.is("ofPerson what 4", x.ofPerson(p, 4), -2);
        }
        due.is("ofPerson -1", x.ofPerson(-1, 9), -1);
        due.is("ofPerson 3", x.ofPerson(3, 9), -1);
        x.open(0);
        due.is("JOY", x.ofPerson(0, 1), 9);
        due.is("fewer that are not OPENED", x.ofPerson(0, 2), 2);
        due.is("OPENED today", x.ofPerson(0, 3), 1);
        due.is("another did not", x.ofPerson(1, 3), 0);
        x.sleep(0);
        due.is("no DAY went by", x.ofPerson(0, 3), 1);
        x.sleep(1);
        due.is("a DAY went by", x.ofPerson(0, 3), 0);
        due.is("JOY stays", x.ofPerson(0, 1), 9);
        x.open(1);
        due.is("JOY in all", x.ofPerson(0, 1), 16);
        x.fill(2, 99);
        x.sell(5, 2);
        due.is("SOLD, fewer", x.ofPerson(0, 2), 0);
        due.is("SOLD, more", x.ofPerson(2, 2), 2);
    }

    private static void fill() {
        MornMarket x = Due.of(Due.SIX);
        due.is("fill", x.fill(0, 99), 40);
        due.is("fill again", x.fill(0, 0), 99);
        due.is("filled", x.ofPerson(0, 0), 0);
        due.is("fill 100", x.fill(0, 100), -2);
        due.is("fill -1", x.fill(0, -1), -2);
        due.is("not filled", x.ofPerson(0, 0), 0);
        due.is("fill nobody's", x.fill(3, 100), -1);
        due.is("fill nobody's", x.fill(-1, 0), -1);
        due.is("another's stays", x.ofPerson(1, 0), 99);
        x.sell(4, 1);
        x.sell(4, 2);
        x.fill(0, 99);
        x.sell(2, 0);
        due.is("above 99", x.fill(1, 5), 107);
    }

    private static void rate() {
        MornMarket none = new MornMarket();
        due.is("rate without a MARKET", none.rate(5), -3);
        due.is("rate 0 without a MARKET", none.rate(0), -2);
        due.is("no RATE", none.many(3), 0);
        MornMarket x = Due.of(Due.SIX);
        due.is("rate", x.rate(9), 2);
        due.is("PRICE by it", x.price(0), 81);
        due.is("rate 10", x.rate(10), -2);
        due.is("rate 0", x.rate(0), -2);
        due.is("rate again", x.rate(1), 9);
        due.is("RATE", x.many(3), 1);
    }

    private static void fresh() {
        MornMarket x = Due.of("m1,00;c034;f034;p039;f099;p001;c090");
        int[] clear = {0, 0, 0, 4, 3, 2, 1, 0, 0, 0};
        int[] frost = {0, 0, 0, 4, 4, 4, 3, 3, 3, 2, 2, 2, 1, 1, 1, 0, 0};
        int[] painted = {0, 0, 0, 4, 4, 3, 3, 2, 2, 1, 1, 0, 0};
        for (int t = 0; t < clear.length; t++) due.is("CLEAR on " + t, x.fresh(0, t), clear[t]);
        for (int t = 0; t < frost.length; t++) due.is("FROST on " + t, x.fresh(1, t), frost[t]);
        for (int t = 0; t < painted.length; t++) due.is("PAINTED on " + t, x.fresh(2, t), painted[t]);
        due.is("FROST's last", x.fresh(3, 35), 1);
        due.is("FROST's end", x.fresh(3, 36), 0);
        due.is("half of 1", x.fresh(4, 0), 0);
        for (int m = 0; m < 5; m++) due.is("on the last DAY", x.fresh(m, 99), 0);
        due.is("DAY 100", x.fresh(0, 100), -2);
        due.is("DAY -1", x.fresh(0, -1), -2);
        due.is("no MORNING", x.fresh(6, 100), -1);
        due.is("no MORNING", x.fresh(-1, 0), -1);
        x.sleep(3);
        x.open(0);
        due.is("OPENED, too", x.fresh(0, 4), 3);
    }

    private static void price() {
        MornMarket x = Due.of("m3,00;c034;f034;p039");
        due.is("PRICE ahead of it", x.price(0), 0);
        x.sleep(4);
        due.is("PRICE of a CLEAR one", x.price(0), 9);
        due.is("PRICE of a FROST", x.price(1), 12);
        due.is("PRICE of a PAINTED one", x.price(2), 12);
        x.open(0);
        due.is("PRICE of an OPENED one", x.price(0), 9);
        due.is("no MORNING", x.price(3), -1);
        due.is("no MORNING", x.price(-1), -1);
    }
}
