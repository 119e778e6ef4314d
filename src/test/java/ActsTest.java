/** Promises 9 to 12: mornings sold and opened, days that go by, years that are told. */
public final class ActsTest {
    private static final Due due = new Due();

    public static void main(String[] args) {
        sell();
        open();
        sleep();
        yearsThatCanBe();
        yearsWithAFirstWrong();
        yearsFromHowAllIsNow();
        refusalsOfYear();
        faultsOfYear();
        due.end();
    }

    private static void sell() {
        MornMarket x = Due.of(Due.SIX);
        due.is("sell", x.sell(0, 1), 18);
        due.is("seller's PURSE", x.ofPerson(0, 0), 58);
        due.is("buyer's PURSE", x.ofPerson(1, 0), 81);
        due.is("OWNER", x.ofMorning(0, 1), 1);
        due.is("sell to the OWNER", x.sell(0, 1), -3);
        due.is("sell above the PURSE", x.sell(0, 2), -3);
        due.is("OWNER as ahead", x.ofMorning(0, 1), 1);
        x.fill(2, 17);
        due.is("sell just above the PURSE", x.sell(0, 2), -3);
        x.fill(2, 18);
        due.is("sell for all of the PURSE", x.sell(0, 2), 18);
        due.is("nothing is left", x.ofPerson(2, 0), 0);
        due.is("PURSE behind it", x.ofPerson(1, 0), 99);
        due.is("sell for nothing", x.sell(3, 2), 0);
        due.is("sell again, above 99", x.sell(2, 0), 8);
        due.is("PURSE above 99", x.ofPerson(1, 0), 107);
        x.open(4);
        due.is("sell an OPENED one", x.sell(4, 1), -3);
        due.is("no MORNING", x.sell(6, 0), -1);
        due.is("no MORNING", x.sell(-1, 0), -1);
        due.is("no PERSON", x.sell(4, 3), -1);
        due.is("no PERSON", x.sell(0, -1), -1);
    }

    private static void open() {
        MornMarket x = Due.of(Due.SIX);
        due.is("the first of the DAY", x.open(0), 9);
        due.is("OPENED already", x.open(0), -3);
        due.is("JOY is had once", x.ofPerson(0, 1), 9);
        due.is("another PERSON's first", x.open(4), 6);
        due.is("not TAKEN yet", x.open(1), 0);
        x.sell(2, 0);
        due.is("half for the new OWNER", x.open(2), 2);
        x.sleep(0);
        due.is("no MORNING", x.open(6), -1);
        due.is("no MORNING", x.open(-1), -1);
        MornMarket y = Due.of("m1,00;c007;c007;c003;c000");
        due.is("a first without JOY", y.open(3), 0);
        due.is("half, cut", y.open(0), 3);
        y.sleep(0);
        due.is("half still", y.open(2), 1);
        y.sleep(1);
        due.is("all on the next DAY", y.open(1), 6);
        due.is("JOY in all", y.ofPerson(0, 1), 10);
    }

    private static void sleep() {
        MornMarket none = new MornMarket();
        due.is("sleep without a MARKET", none.sleep(1), -3);
        due.is("sleep -1 without a MARKET", none.sleep(-1), -2);
        due.is("DAY without a MARKET", none.many(2), 0);
        MornMarket x = Due.of(Due.SIX);
        due.is("sleep 0", x.sleep(0), 0);
        due.is("sleep -1", x.sleep(-1), -2);
        due.is("sleep 10", x.sleep(10), -2);
        for (int n = 1; n <= 11; n++) {
            due.is("sleep 9", x.sleep(9), 9 * n);
        }
        due.is("DAY", x.many(2), 99);
        due.is("sleep above 99", x.sleep(1), -3);
        due.is("sleep 10 above 99", x.sleep(10), -2);
        due.is("sleep 0 on the last DAY", x.sleep(0), 99);
    }

    private static void year(MornMarket x, int[] answers, int... cells) {
        int[] whats = {0, 1, 2, 3, 10, 11, 12, 13, 20, 21, 22, 23, 30, 31, 32, 33, 34, 35};
        Due.row(x, 1, Due.INTS, cells);
        for (int k = 0; k < whats.length; k++) {
            due.is("year asked " + whats[k], x.year(1, Due.INTS, 0, cells.length / 2, whats[k]), answers[k]);
            due.is("fault behind it", x.fault(), 0);
        }
    }

    private static void yearsThatCanBe() {
        MornMarket x = Due.of(Due.SIX);
        year(x, new int[] {0, -9, 0, 0, 40, 99, 7, -9, 0, 0, 0, -9, 0, 0, 1, 1, 2, 0});
        // 0 goes to 1 for 18, 1 opens it (9); two days; 0 opens 1 (7) and 5 (half of 2), 1 opens 2 (3).
        year(x, new int[] {2, -9, 39, 20, 58, 81, 7, -9, 8, 12, 0, -9, 1, 0, 1, 1, 2, 0},
            0, 1, 0, 8, 2, 9, 1, 8, 5, 8, 2, 8);
        year(x, new int[] {99, -9, 0, 0, 40, 99, 7, -9, 0, 0, 0, -9, 0, 0, 1, 1, 2, 0},
            9, 9, 9, 9, 9, 9, 9, 9, 9, 9, 9, 9, 9, 9, 9, 9, 9, 9, 9, 9, 9, 9, 0, 9);
        due.is("DAY is as it was", x.many(2), 0);
        due.is("nothing is OPENED", x.ofMorning(0, 4), 0);
        due.is("nothing is SOLD", x.ofMorning(0, 1), 0);
        due.is("no JOY", x.ofPerson(0, 1), 0);
        due.is("PURSE is as it was", x.ofPerson(0, 0), 40);
        due.is("none OPENED one", x.ofPerson(0, 3), 0);
        MornMarket y = Due.of("m1,00;c007;c005");
        due.is("no DAY went by", Due.yearOf(y, 3, 0, 8, 0, 9, 1, 8), 9);
        due.is("a DAY went by", Due.yearOf(y, 3, 0, 8, 1, 9, 1, 8), 11);
        due.is("no MORNING 2", Due.yearOf(y, 32), -9);
        MornMarket z = Due.of("m1,00,00,00,00;c309;c207;c105;c003");
        due.is("JOY of all four", Due.yearOf(z, 3, 0, 8, 1, 8, 2, 8, 3, 8), 24);
        Due.told(z, "m1,00,00;c009;c107");
        due.is("JOY of the two that there are", Due.yearOf(z, 3, 0, 8, 1, 8), 16);
    }

    private static void wrong(MornMarket x, int first, int... cells) {
        int[] all = new int[18];
        java.util.Arrays.fill(all, -100 - first);
        all[1] = first;
        year(x, all, cells);
    }

    private static void yearsWithAFirstWrong() {
        MornMarket x = Due.of(Due.SIX);
        wrong(x, 1, 0, 8, 0, 8);
        wrong(x, 1, 0, 8, 0, 1);
        wrong(x, 0, 0, 0);
        wrong(x, 1, 0, 1, 0, 1);
        wrong(x, 0, 0, 3);
        wrong(x, 0, 0, 2);
        wrong(x, 0, 4, 2);
        wrong(x, 2, 1, 8, 1, 9, 1, 0, 1, 8);
        wrong(x, 11, 9, 9, 9, 9, 9, 9, 9, 9, 9, 9, 9, 9, 9, 9, 9, 9, 9, 9, 9, 9, 9, 9, 1, 9);
        x.fill(2, 18);
        due.is("for all of the PURSE", Due.yearOf(x, 12, 0, 2), 0);
        x.fill(2, 17);
        wrong(x, 0, 0, 2);
        due.is("a day later it costs less", Due.yearOf(x, 12, 1, 9, 0, 2), 1);
    }

    private static void yearsFromHowAllIsNow() {
        MornMarket x = Due.of(Due.SIX);
        x.sleep(2);
        x.open(3);
        due.is("half, as one was OPENED", Due.yearOf(x, 3, 2, 8), 1);
        due.is("all on the next DAY", Due.yearOf(x, 3, 1, 9, 2, 8), 2);
        due.is("JOY ahead of it is not counted", Due.yearOf(x, 21, 2, 8), 1);
        due.is("what was OPENED is, too", Due.yearOf(x, 2, 2, 8), 12);
        due.is("OPENED ahead of it", Due.yearOf(x, 1, 3, 8), 0);
        due.is("DAY", Due.yearOf(x, 0, 9, 9), 11);
    }

    private static void refusalsOfYear() {
        MornMarket none = new MornMarket();
        due.is("no SHEET", none.year(4, 9, 0, 0, 0), -1);
        due.is("no SHEET", none.year(-1, 0, 0, 0, 0), -1);
        due.is("NULL is ahead of no MARKET", none.year(1, 0, 0, 0, 0), -11);
        none.sheet(1, 2, 4);
        due.is("no MARKET", none.year(1, 2, 0, 1, 0), -3);
        due.is("fault of no MARKET", none.fault(), 0);
        due.is("INDEX is ahead of no MARKET", none.year(1, 2, 0, 3, 0), -13);
        none.put(1, 1, 7);
        due.is("no MARKET is ahead of pairs", none.year(1, 2, 0, 2, 0), -3);
        MornMarket x = Due.of(Due.SIX);
        x.sheet(1, 2, 60);
        int[] whats = {-1, 4, 9, 14, 19, 24, 29, 36, Integer.MAX_VALUE, Integer.MIN_VALUE};
        for (int what : whats) {
            due.is("what " + what, x.year(1, 2, 0, 0, what), -2);
        }
        due.is("n 21", x.year(1, 2, 0, 21, 0), -2);
        due.is("n -1", x.year(1, 2, 0, -1, 0), -2);
        due.is("lane 3", x.year(1, 3, 0, 0, 0), -2);
        due.is("lane -1", x.year(1, -1, 0, 0, 0), -2);
        due.is("lane 3 of nothing", x.year(2, 3, 0, 0, 0), -2);
        int[] seconds = {-1, 4, 5, 6, 7, 10, 264, Integer.MIN_VALUE};
        for (int second : seconds) {
            due.is("second " + second, Due.yearOf(x, 0, 0, second), -2);
            due.is("second ahead of no MORNING", Due.yearOf(x, 0, 6, second), -2);
        }
        due.is("10 DAYS", Due.yearOf(x, 0, 10, 9), -2);
        due.is("-1 DAYS", Due.yearOf(x, 0, -1, 9), -2);
        due.is("no MORNING is OPENED", Due.yearOf(x, 0, 6, 8), -1);
        due.is("no MORNING is SOLD", Due.yearOf(x, 0, -1, 0), -1);
        due.is("no MORNING, no PERSON", Due.yearOf(x, 0, 6, 3), -1);
        due.is("UNKNOWN in the first pair", Due.yearOf(x, 0, 6, 8, 0, 7), -1);
        due.is("OUTSIDE in the first pair", Due.yearOf(x, 0, 0, 7, 6, 8), -2);
        due.is("refused behind a wrong one", Due.yearOf(x, 1, 0, 0, 6, 8), -1);
        due.is("fault of a refused one", x.fault(), 0);
    }

    private static void faultOfYear(MornMarket x, int sheet, int lane, int i, int n, int answer, int fault) {
        String call = "year(" + sheet + ", " + lane + ", " + i + ", " + n + ", 0)";
        due.is(call, x.year(sheet, lane, i, n, 0), answer);
        due.is("fault behind " + call, x.fault(), fault);
    }

    private static void faultsOfYear() {
        MornMarket x = Due.of(Due.SIX);
        Due.row(x, 1, Due.SHORTS, 7, 3, 9, 1, 8);
        faultOfYear(x, 1, 2, 9, 1, -12, 2);
        faultOfYear(x, 1, 0, 0, 1, -12, 2);
        faultOfYear(x, 2, 0, 9, 1, -11, 1);
        faultOfYear(x, 1, 1, 1, 2, 3, 0);
        faultOfYear(x, 1, 1, 2, 2, -13, 3);
        faultOfYear(x, 1, 1, 1, 3, -13, 3);
        faultOfYear(x, 1, 1, 4, 1, -13, 3);
        faultOfYear(x, 1, 1, 5, 0, 0, 0);
        faultOfYear(x, 1, 1, 6, 0, -13, 3);
        faultOfYear(x, 1, 1, -1, 0, -13, 3);
        faultOfYear(x, 1, 1, Integer.MAX_VALUE, 20, -13, 3);
        faultOfYear(x, 1, 1, Integer.MIN_VALUE, 20, -13, 3);
        faultOfYear(x, 1, 1, 0, 21, -2, 0);
        int[] sleeps = new int[40];
        for (int k = 0; k < 20; k++) {
            sleeps[2 * k] = k < 10 ? 9 : 0;
            sleeps[2 * k + 1] = 9;
        }
        Due.row(x, 3, Due.BYTES, sleeps);
        faultOfYear(x, 3, 0, 0, 20, 90, 0);
        // What stands behind the last pair is no part of the year, even at the row's very end.
        Due.row(x, 3, Due.BYTES, 2, 9, 7, 7, 7);
        faultOfYear(x, 3, 0, 0, 1, 2, 0);
        x.sheet(3, 0, 60);
        for (int i = 20; i < 60; i++) x.put(3, i, i % 2 == 0 ? 4 : 9);
        faultOfYear(x, 3, 0, 20, 20, 80, 0);
        faultOfYear(x, 3, 0, 21, 20, -13, 3);
    }
}
