/** The ends of promise 12: a YEAR's ranges, refusals and FAULTS in their order, its FIRST WRONG, and that it changes nothing. */
public final class YearBoundsTest {
    private static final Due due = new Due();
    private static final Twins lived = new Twins(due, Due::lived);
    private static final Twins onlySheets = new Twins(due, Due::onlySheets);
    private static final int[] WHATS = {0, 1, 2, 3, 10, 11, 12, 13, 20, 21, 22, 23, 30, 31, 32, 33, 34, 35};

    public static void main(String[] args) {
        unknownSheets();
        outsideLanes();
        outsideNumbersOfPairs();
        outsideWhats();
        castAndNull();
        index();
        state();
        secondsOfPairs();
        daysOfPairs();
        morningsOfPairs();
        pairByPair();
        aYearChangesNothing();
        openedAlready();
        soldToTheOwner();
        soldToNobody();
        soldAboveThePurse();
        daysAbove99();
        firstWrongIsTheFirst();
        answersWhereThereIsNothing();
        cellsCutToTheirLane();
        due.end();
    }

    private static Twins.Call put(int... cells) {
        return x -> {
            Due.row(x, 2, Due.INTS, cells);
            return 0;
        };
    }

    /** All answers of a YEAR that is refused, or that comes to a FAULT. */
    private static void refused(String told, int answer, int... cells) {
        Twins twins = lived.with(put(cells));
        for (int what : WHATS) twins.same(told + ", asked " + what, x -> x.year(2, 2, 0, cells.length / 2, what), answer, 0);
    }

    private static void wrong(String told, Twins twins, int first, int... cells) {
        Twins ready = twins.with(put(cells));
        for (int what : WHATS) {
            int answer = what == 1 ? first : -100 - first;
            ready.same(told + ", asked " + what, x -> x.year(2, 2, 0, cells.length / 2, what), answer, 0);
        }
    }

    private static void can(String told, Twins twins, int what, int answer, int... cells) {
        Twins ready = twins.with(put(cells));
        ready.same(told + ", FIRST WRONG", x -> x.year(2, 2, 0, cells.length / 2, 1), -9, 0);
        ready.same(told + ", asked " + what, x -> x.year(2, 2, 0, cells.length / 2, what), answer, 0);
    }

    private static void unknownSheets() {
        for (int sheet : Due.beyond(0, 3)) {
            lived.same("year of SHEET " + sheet, x -> x.year(sheet, 0, 0, 0, 0), -1, 0);
            lived.same("UNKNOWN ahead of OUTSIDE: lane", x -> x.year(sheet, 3, 0, 0, 0), -1, 0);
            lived.same("UNKNOWN ahead of OUTSIDE: n", x -> x.year(sheet, 0, 0, 21, 0), -1, 0);
            lived.same("UNKNOWN ahead of OUTSIDE: what", x -> x.year(sheet, 0, 0, 0, 4), -1, 0);
            onlySheets.same("UNKNOWN ahead of STATE", x -> x.year(sheet, 0, 0, 0, 0), -1, 0);
        }
        for (int k = 0; k < 4; k++) {
            MornMarket x = Due.lived();
            Due.row(x, k, Due.INTS, 5, 9);
            due.is("year of SHEET " + k, x.year(k, 2, 0, 1, 0), 7);
        }
    }

    private static void outsideLanes() {
        for (int lane : Due.beyond(0, 2)) {
            lived.same("year of lane " + lane, x -> x.year(0, lane, 0, 0, 0), -2, 0);
            lived.same("OUTSIDE ahead of NULL: lane", x -> x.year(3, lane, 0, 0, 0), -2, 0);
            lived.same("OUTSIDE ahead of INDEX: lane", x -> x.year(0, lane, 42, 0, 0), -2, 0);
            onlySheets.same("OUTSIDE ahead of STATE: lane", x -> x.year(0, lane, 0, 0, 0), -2, 0);
        }
        for (int k = 0; k < 3; k++) {
            int lane = k;
            lived.same("year of lane " + lane, x -> x.year(lane, lane, 0, 0, 0), 2, 0);
        }
    }

    private static void outsideNumbersOfPairs() {
        for (int n : Due.beyond(0, 20)) {
            lived.same("year of " + n + " pairs", x -> x.year(0, 0, 0, n, 0), -2, 0);
            lived.same("OUTSIDE ahead of CAST: n", x -> x.year(0, 1, 0, n, 0), -2, 0);
            lived.same("OUTSIDE ahead of NULL: n", x -> x.year(3, 0, 0, n, 0), -2, 0);
            lived.same("OUTSIDE ahead of INDEX: n", x -> x.year(0, 0, -1, n, 0), -2, 0);
            onlySheets.same("OUTSIDE ahead of STATE: n", x -> x.year(0, 0, 0, n, 0), -2, 0);
        }
        int[] cells = new int[60];
        for (int i = 0; i < 60; i++) cells[i] = i % 2 == 0 ? 1 : 9;
        for (int k = 0; k <= 20; k++) {
            int n = k;
            lived.with(put(cells)).same("year of " + n + " pairs", x -> x.year(2, 2, 0, n, 0), 2 + n, 0);
        }
    }

    private static void outsideWhats() {
        boolean[] taken = new boolean[45];
        for (int what : WHATS) taken[what] = true;
        int[] all = {2, -9, 12, 0, 62, 81, 3, -9, 0, 0, 0, -9, 1, 0, 1, 1, 2, 2};
        int next = 0;
        for (int k = 0; k < 45; k++) {
            int what = k;
            int answer = taken[what] ? all[next++] : -2;
            lived.same("year of no pairs, asked " + what, x -> x.year(0, 0, 0, 0, what), answer, 0);
        }
        for (int what : new int[] {-1, 4, 9, 14, 19, 24, 29, 36, Due.LEAST, Due.MOST}) {
            lived.same("year asked " + what, x -> x.year(0, 0, 0, 0, what), -2, 0);
            lived.same("OUTSIDE ahead of CAST: what", x -> x.year(0, 1, 0, 0, what), -2, 0);
            lived.same("OUTSIDE ahead of NULL: what", x -> x.year(3, 0, 0, 0, what), -2, 0);
            lived.same("OUTSIDE ahead of INDEX: what", x -> x.year(0, 0, 42, 0, what), -2, 0);
            onlySheets.same("OUTSIDE ahead of STATE: what", x -> x.year(0, 0, 0, 0, what), -2, 0);
        }
    }

    private static void castAndNull() {
        for (int k = 0; k < 3; k++) {
            for (int l = 0; l < 3; l++) {
                int sheet = k;
                int lane = l;
                if (sheet == lane) continue;
                lived.same("CAST of " + sheet + " to " + lane, x -> x.year(sheet, lane, 0, 0, 0), -12, 2);
                lived.same("CAST ahead of INDEX", x -> x.year(sheet, lane, 99, 1, 0), -12, 2);
                onlySheets.same("CAST ahead of STATE", x -> x.year(sheet, lane, 0, 0, 0), -12, 2);
                lived.with(x -> x.sheet(3, sheet, 0)).same("CAST of a row of no cells", x -> x.year(3, lane, 0, 0, 0), -12, 2);
            }
            int any = k;
            lived.same("NULL, asked as lane " + any, x -> x.year(3, any, 0, 0, 0), -11, 1);
            lived.same("NULL ahead of INDEX", x -> x.year(3, any, -1, 1, 0), -11, 1);
            onlySheets.same("NULL ahead of STATE", x -> x.year(3, any, 0, 0, 0), -11, 1);
            lived.with(x -> x.lose(1)).same("NULL of what was lost", x -> x.year(1, any, 0, 0, 0), -11, 1);
            lived.with(x -> x.sheet(3, any, 0)).same("a row of no cells is not nothing", x -> x.year(3, any, 0, 0, 0), 2, 0);
        }
    }

    private static void index() {
        Twins five = lived.with(put(7, 3, 9, 1, 9));
        for (int i : Due.beyond(0, 5)) {
            five.same("no pairs from " + i + " on", x -> x.year(2, 2, i, 0, 0), -13, 3);
            five.same("a pair from " + i + " on", x -> x.year(2, 2, i, 1, 0), -13, 3);
            five.same("20 pairs from " + i + " on", x -> x.year(2, 2, i, 20, 0), -13, 3);
            onlySheets.same("INDEX ahead of STATE", x -> x.year(2, 2, i, 0, 0), -13, 3);
        }
        five.same("no pairs from the row's end on", x -> x.year(2, 2, 5, 0, 0), 2, 0);
        five.same("a pair from the row's end on", x -> x.year(2, 2, 5, 1, 0), -13, 3);
        five.same("half a pair is there", x -> x.year(2, 2, 4, 1, 0), -13, 3);
        five.same("the last pair", x -> x.year(2, 2, 3, 1, 0), 3, 0);
        five.same("the last two pairs", x -> x.year(2, 2, 1, 2, 0), 6, 0);
        five.same("one cell too few", x -> x.year(2, 2, 2, 2, 0), -13, 3);
        five.same("INDEX ahead of UNKNOWN pair by pair", x -> x.year(2, 2, 0, 3, 0), -13, 3);
        five.same("UNKNOWN pair by pair", x -> x.year(2, 2, 0, 2, 0), -1, 0);
    }

    private static void state() {
        onlySheets.same("no MARKET", x -> x.year(0, 0, 0, 0, 0), -3, 0);
        for (int what : WHATS) onlySheets.same("no MARKET, asked " + what, x -> x.year(0, 0, 0, 0, what), -3, 0);
        onlySheets.with(put(0, 7)).same("STATE ahead of OUTSIDE pair by pair", x -> x.year(2, 2, 0, 1, 0), -3, 0);
        onlySheets.with(put(0, 8)).same("STATE ahead of UNKNOWN pair by pair", x -> x.year(2, 2, 0, 1, 0), -3, 0);
    }

    private static void secondsOfPairs() {
        for (int second : new int[] {-1, 4, 5, 6, 7, 10, 11, 256 + 8, 65536 + 9, Due.LEAST, Due.MOST}) {
            refused("the second is " + second, -2, 4, second);
            refused("OUTSIDE ahead of UNKNOWN, the second is " + second, -2, 6, second);
        }
        can("the second is 0", lived, 34, 0, 4, 0);
        can("the second is 1", lived, 34, 1, 4, 1);
        can("the second is 2", lived, 31, 2, 9, 9, 9, 9, 9, 9, 1, 2);
        wrong("the second is 3, where there are three", lived, 0, 4, 3);
        can("the second is 8", lived, 2, 28, 4, 8);
        can("the second is 9", lived, 0, 6, 4, 9);
        MornMarket four = Due.of("m1,00,00,00,99;c009");
        due.is("the second is 3, where there are four", Due.yearOf(four, 30, 0, 3), 3);
    }

    private static void daysOfPairs() {
        for (int days : Due.beyond(0, 9)) refused(days + " DAYS", -2, days, 9);
        for (int days = 0; days <= 9; days++) can(days + " DAYS", lived, 0, 2 + days, days, 9);
    }

    private static void morningsOfPairs() {
        for (int m : Due.beyond(0, 5)) {
            refused("MORNING " + m + " is OPENED", -1, m, 8);
            for (int p = 0; p <= 3; p++) refused("MORNING " + m + " is SOLD to " + p, -1, m, p);
        }
        can("the first MORNING is OPENED", lived, 2, 13, 0, 8);
        can("the last MORNING is OPENED", lived, 2, 44, 5, 8);
        can("6 to 9 are no MORNINGS, but DAYS", lived, 0, 8, 6, 9);
        MornMarket one = Due.of("m1,00;c009");
        due.is("a second MORNING where there is one", Due.yearOf(one, 0, 1, 8), -1);
        due.is("the only one", Due.yearOf(one, 3, 0, 8), 9);
    }

    private static void pairByPair() {
        refused("OUTSIDE in the first pair, UNKNOWN in the second", -2, 0, 7, 6, 8);
        refused("UNKNOWN in the first pair, OUTSIDE in the second", -1, 6, 8, 0, 7);
        refused("UNKNOWN in the last pair", -1, 0, 8, 1, 9, 6, 8);
        refused("OUTSIDE in the last pair", -2, 0, 8, 1, 9, 10, 9);
        refused("a refusal goes ahead of a FIRST WRONG ahead of it", -1, 2, 8, 6, 8);
        refused("and of one in its own pair", -2, 2, 4);
        Twins behind = lived.with(put(1, 9, 6, 7));
        behind.same("what stands behind the pairs is none of them", x -> x.year(2, 2, 0, 1, 0), 3, 0);
        Twins ahead = lived.with(put(6, 7, 1, 9));
        ahead.same("what stands ahead of i is none of them", x -> x.year(2, 2, 2, 1, 0), 3, 0);
    }

    private static void aYearChangesNothing() {
        // 1 opens 0 (half of 7), 2 sells 4 to 0 for 12, three DAYS, 0 opens 4 (5) and 1 (half of 6).
        int[] cells = {0, 8, 4, 0, 3, 9, 4, 8, 1, 8};
        int[] all = {5, -9, 31, 11, 50, 81, 15, -9, 8, 3, 0, -9, 1, 0, 1, 1, 0, 2};
        Twins ready = lived.with(put(cells));
        for (int k = 0; k < WHATS.length; k++) {
            int what = WHATS[k];
            ready.same("a whole YEAR, asked " + what, x -> x.year(2, 2, 0, 5, what), all[k], 0);
        }
        ready.with(x -> x.year(2, 2, 0, 5, 0)).same("the same YEAR again", x -> x.year(2, 2, 0, 5, 3), 11, 0);
    }

    private static void openedAlready() {
        wrong("OPENED already", lived, 0, 3, 8);
        wrong("OPENED already ahead of today", lived, 0, 2, 8);
        wrong("OPENED in the YEAR", lived, 1, 0, 8, 0, 8);
        wrong("OPENED in the YEAR on a DAY ahead", lived, 2, 0, 8, 1, 9, 0, 8);
        for (int p = 0; p <= 3; p++) {
            wrong("SOLD to " + p + " though it is OPENED", lived, 0, 3, p);
            wrong("SOLD to " + p + " though it was OPENED in the YEAR", lived, 1, 0, 8, 0, p);
        }
    }

    private static void soldToTheOwner() {
        wrong("SOLD to its OWNER", lived, 0, 0, 1);
        wrong("SOLD to its OWNER of the YEAR", lived, 1, 0, 0, 0, 0);
        wrong("SOLD to its OWNER for nothing", lived, 2, 9, 9, 9, 9, 0, 1);
        can("SOLD back", lived, 30, 1, 0, 0, 0, 1);
    }

    private static void soldToNobody() {
        wrong("SOLD to a PERSON that there is not", lived, 0, 0, 3);
        Twins one = new Twins(due, () -> Due.of("m1,99;c009"));
        for (int p = 0; p <= 3; p++) wrong("SOLD to " + p + " where there is one", one, 0, 0, p);
        Twins alone = new Twins(due, () -> Due.of("m1,99,99;c000"));
        wrong("SOLD for nothing to a PERSON that there is not", alone, 0, 0, 2);
    }

    private static void soldAboveThePurse() {
        wrong("a penny too few", lived.with(x -> x.fill(2, 13)), 0, 0, 2);
        can("just enough", lived.with(x -> x.fill(2, 14)), 12, 0, 0, 2);
        can("a DAY later it costs less", lived.with(x -> x.fill(2, 13)), 12, 1, 1, 9, 0, 2);
        wrong("PENCE are spent in the YEAR", lived.with(x -> x.fill(2, 27)), 1, 0, 2, 1, 2);
        can("PENCE are had in the YEAR", lived.with(x -> x.fill(2, 2)), 32, 1, 4, 0, 0, 2);
        Twins rich = new Twins(due, () -> Due.of("m9,99,99;c009;c009;c109"));
        can("a PURSE above 99", rich, 10, 180, 0, 1);
        can("what is above 99 may be spent", rich, 10, 18, 0, 1, 0, 0, 2, 0);
    }

    private static void daysAbove99() {
        Twins late = lived.with(x -> {
            for (int n = 0; n < 10; n++) x.sleep(9);
            return 0;
        });
        can("DAY 99", late, 0, 99, 7, 9);
        wrong("DAY 100", late, 0, 8, 9);
        wrong("DAY 101", late, 0, 9, 9);
        wrong("DAY 100 in the second pair", late, 1, 7, 9, 1, 9);
        can("0 DAYS on DAY 99", late, 0, 99, 7, 9, 0, 9);
    }

    private static void firstWrongIsTheFirst() {
        wrong("two wrong ones", lived, 1, 1, 9, 3, 8, 2, 8);
        int[] cells = new int[40];
        for (int k = 0; k < 20; k++) cells[2 * k + 1] = 9;
        cells[38] = 3;
        cells[39] = 8;
        wrong("the last of 20", lived, 19, cells);
        wrong("a wrong one is not done", lived, 0, 2, 8, 0, 8);
    }

    private static void answersWhereThereIsNothing() {
        Twins one = new Twins(due, () -> Due.of("m1,50;c009"));
        int[] all = {0, -9, 1, 9, 50, -9, -9, -9, 9, -9, -9, -9, 0, -9, -9, -9, -9, -9};
        Twins ready = one.with(put(0, 8));
        for (int k = 0; k < WHATS.length; k++) {
            int what = WHATS[k];
            ready.same("where there is one of each, asked " + what, x -> x.year(2, 2, 0, 1, what), all[k], 0);
        }
        wrong("a FIRST WRONG goes ahead of NONE", one, 1, 0, 8, 0, 8);
        MornMarket greatest = Due.of("m1,00,11,22,33;c000;c000;c000;c000;c000;c309");
        due.is("PURSE of the fourth PERSON", Due.yearOf(greatest, 13, 5, 8), 33);
        due.is("JOY of all four", Due.yearOf(greatest, 3, 5, 8), 9);
        due.is("JOY of the fourth PERSON", Due.yearOf(greatest, 23, 5, 8), 9);
        due.is("OWNER of the sixth MORNING", Due.yearOf(greatest, 35, 5, 8), 3);
        due.is("all that is OPENED", Due.yearOf(greatest, 2, 0, 8, 1, 8, 2, 8, 3, 8, 4, 8, 5, 8), 63);
    }

    private static void cellsCutToTheirLane() {
        MornMarket x = Due.lived();
        Due.row(x, 3, Due.BYTES, 256 + 1, 512 + 9);
        due.is("bytes that were cut are DAYS", x.year(3, 0, 0, 1, 0), 3);
        Due.row(x, 3, Due.SHORTS, 65536 + 1, 9 - 65536);
        due.is("shorts that were cut are DAYS", x.year(3, 1, 0, 1, 0), 3);
        Due.row(x, 3, Due.SHORTS, 256 + 1, 9);
        due.is("a short is not cut to a byte", x.year(3, 1, 0, 1, 0), -2);
    }
}
