/** The ends of promises 24 to 34: rows of 0 and 60 cells, what is cut, FAULTS in their order, TRACE that wraps. */
public final class SheetsBoundsTest {
    private static final Due due = new Due();
    private static final Twins lived = new Twins(due, Due::lived);

    public static void main(String[] args) {
        sheetRefused();
        sheetOfEachLength();
        aNewRowIsOfZeros();
        lose();
        putRefused();
        putIsCut();
        cellRefused();
        cellOfOtherLanes();
        copyUnknownNullCast();
        copyIndex();
        copyAsTheyWere();
        tell();
        crow();
        as();
        traceWraps();
        fault();
        many();
        due.end();
    }

    private static void sheetRefused() {
        for (int k : Due.beyond(0, 3)) {
            lived.same("sheet " + k, x -> x.sheet(k, 0, 1), -1, 0);
            lived.same("UNKNOWN ahead of OUTSIDE: lane", x -> x.sheet(k, 3, 1), -1, 0);
            lived.same("UNKNOWN ahead of OUTSIDE: n", x -> x.sheet(k, 0, 61), -1, 0);
            lived.same("UNKNOWN ahead of SIZE", x -> x.sheet(k, 0, -1), -1, 0);
        }
        for (int k = 0; k < 4; k++) {
            int at = k;
            for (int lane : Due.beyond(0, 2)) {
                lived.same("lane " + lane, x -> x.sheet(at, lane, 1), -2, 0);
                lived.same("OUTSIDE ahead of SIZE", x -> x.sheet(at, lane, -1), -2, 0);
            }
            for (int n : new int[] {61, 62, 1000, Due.MOST}) lived.same(n + " cells", x -> x.sheet(at, 0, n), -2, 0);
            for (int n : new int[] {-1, -2, -60, Due.LEAST}) lived.same(n + " cells", x -> x.sheet(at, 2, n), -14, 4);
        }
    }

    private static void sheetOfEachLength() {
        for (int n = 0; n <= 60; n++) {
            for (int lane = 0; lane < 3; lane++) {
                MornMarket x = Due.lived();
                int k = n % 4;
                due.is("a row of " + n, x.sheet(k, lane, n), 1);
                due.is("fault() behind it", x.fault(), 0);
                if (n > 0) due.is("its last cell", x.cell(k, n - 1, lane), 0);
                due.is("behind its last cell", x.cell(k, n, lane), Due.LOST);
                due.is("fault() behind that", x.fault(), 3);
                due.is("put to its end", x.put(k, n, 1), -13);
                due.is("it is a row", x.lose(k), 1);
            }
        }
    }

    private static void aNewRowIsOfZeros() {
        MornMarket x = new MornMarket();
        x.sheet(1, 2, 60);
        for (int i = 0; i < 60; i++) x.put(1, i, -1);
        x.sheet(1, 2, 3);
        for (int i = 0; i < 3; i++) due.is("0 at first in a shorter row", x.cell(1, i, 2), 0);
        x.put(1, 2, 5);
        x.sheet(1, 2, 60);
        for (int i = 0; i < 60; i++) due.is("0 at first in a longer row", x.cell(1, i, 2), 0);
        x.put(1, 59, 5);
        x.lose(1);
        x.sheet(1, 0, 60);
        for (int i = 0; i < 60; i++) due.is("0 at first behind a loss", x.cell(1, i, 0), 0);
        x.sheet(1, 0, 60);
        due.is("another SHEET has nothing", x.lose(0), 0);
    }

    private static void lose() {
        for (int k : Due.beyond(0, 3)) lived.same("lose of SHEET " + k, x -> x.lose(k), -1);
        lived.same("lose of nothing", x -> x.lose(3), 0);
        lived.with(x -> x.lose(0)).same("lose again", x -> x.lose(0), 0);
        for (int k = 0; k < 3; k++) {
            MornMarket x = Due.lived();
            due.is("lose of SHEET " + k, x.lose(k), 1);
            due.is("what is lost", x.cell(k, 0, k), Due.LOST);
            due.is("is nothing", x.fault(), 1);
            due.is("another one stays", x.cell((k + 1) % 3, 0, (k + 1) % 3) == Due.LOST ? 1 : 0, 0);
            due.is("the MARKET stays", x.many(0), 6);
        }
        MornMarket y = new MornMarket();
        y.sheet(3, 1, 0);
        due.is("a row of no cells is lost", y.lose(3), 1);
        due.is("and no more", y.lose(3), 0);
    }

    private static void putRefused() {
        for (int k : Due.beyond(0, 3)) lived.same("put to SHEET " + k, x -> x.put(k, 0, 1), -1, 0);
        lived.same("put to nothing", x -> x.put(3, 0, 1), -11, 1);
        int[] lengths = {41, 5, 4};
        for (int k = 0; k < 3; k++) {
            int at = k;
            for (int i : Due.beyond(0, lengths[k] - 1)) {
                lived.same("NULL ahead of INDEX", x -> x.put(3, i, 1), -11, 1);
                lived.same("put to cell " + i, x -> x.put(at, i, 1), -13, 3);
            }
            MornMarket x = Due.lived();
            due.is("put to the first cell", x.put(k, 0, 77), 1);
            due.is("put to the last cell", x.put(k, lengths[k] - 1, 78), 1);
            due.is("fault() behind it", x.fault(), 0);
            due.is("the first cell", x.cell(k, 0, k), 77);
            due.is("the last cell", x.cell(k, lengths[k] - 1, k), 78);
        }
        lived.with(x -> x.sheet(3, 0, 0)).same("put to a row of no cells", x -> x.put(3, 0, 1), -13, 3);
        MornMarket x = new MornMarket();
        x.sheet(3, 0, 60);
        due.is("put to cell 59 of 60", x.put(3, 59, 1), 1);
        due.is("put to cell 60 of 60", x.put(3, 60, 1), -13);
    }

    private static void putIsCut() {
        long[][] bytes = {{127, 127}, {128, -128}, {-128, -128}, {-129, 127}, {255, -1}, {256, 0}, {-256, 0}, {Due.MOST, -1}, {Due.LEAST, 0}};
        long[][] shorts = {{32767, 32767}, {32768, -32768}, {-32768, -32768}, {-32769, 32767}, {65535, -1}, {65536, 0}, {128, 128},
            {-129, -129}, {Due.MOST, -1}, {Due.LEAST, 0}};
        long[][] ints = {{Due.MOST, Due.MOST}, {Due.LEAST, Due.LEAST}, {65536, 65536}, {-65537, -65537}, {0, 0}, {-1, -1}};
        long[][][] lanes = {bytes, shorts, ints};
        for (int lane = 0; lane < 3; lane++) {
            for (long[] pair : lanes[lane]) {
                MornMarket x = new MornMarket();
                x.sheet(2, lane, 3);
                due.is("put of " + pair[0], x.put(2, 1, (int) pair[0]), 1);
                due.is(pair[0] + " cut to lane " + lane, x.cell(2, 1, lane), pair[1]);
                due.is("the cell ahead of it", x.cell(2, 0, lane), 0);
                due.is("the cell behind it", x.cell(2, 2, lane), 0);
            }
        }
    }

    private static void cellRefused() {
        for (int k : Due.beyond(0, 3)) {
            lived.same("cell of SHEET " + k, x -> x.cell(k, 0, 0), Due.LOST, 0);
            lived.same("UNKNOWN, not NULL", x -> x.cell(k, -1, 0), Due.LOST, 0);
        }
        for (int lane : Due.beyond(0, 2)) {
            lived.same("lane " + lane, x -> x.cell(0, 0, lane), Due.LOST, 0);
            lived.same("OUTSIDE ahead of NULL", x -> x.cell(3, 0, lane), Due.LOST, 0);
            lived.same("OUTSIDE ahead of INDEX", x -> x.cell(0, 41, lane), Due.LOST, 0);
        }
        int[] lengths = {41, 5, 4};
        long[] firsts = {'m', 7, 100000};
        long[] lasts = {'3', 8, Due.LEAST};
        for (int k = 0; k < 3; k++) {
            int at = k;
            int last = lengths[k] - 1;
            for (int i : Due.beyond(0, last)) lived.same("cell " + i, x -> x.cell(at, i, at), Due.LOST, 3);
            lived.same("the first cell", x -> x.cell(at, 0, at), firsts[k], 0);
            lived.same("the last cell", x -> x.cell(at, last, at), lasts[k], 0);
        }
        lived.with(x -> x.sheet(3, 1, 0)).same("cell of a row of no cells", x -> x.cell(3, 0, 1), Due.LOST, 3);
    }

    private static void cellOfOtherLanes() {
        for (int k = 0; k < 3; k++) {
            int at = k;
            for (int l = 0; l < 3; l++) {
                int lane = l;
                lived.same("nothing is no CAST", x -> x.cell(3, 0, lane), Due.LOST, 1);
                lived.same("NULL ahead of INDEX", x -> x.cell(3, -1, lane), Due.LOST, 1);
                lived.with(x -> x.lose(at)).same("what was lost is no CAST", x -> x.cell(at, 0, lane), Due.LOST, 1);
                if (at == lane) continue;
                lived.same("CAST of " + at + " to " + lane, x -> x.cell(at, 0, lane), Due.LOST, 2);
                lived.same("CAST ahead of INDEX", x -> x.cell(at, 60, lane), Due.LOST, 2);
                lived.same("CAST ahead of INDEX", x -> x.cell(at, -1, lane), Due.LOST, 2);
                lived.with(x -> x.sheet(3, at, 0)).same("CAST of a row of no cells", x -> x.cell(3, 0, lane), Due.LOST, 2);
            }
        }
    }

    private static void copyUnknownNullCast() {
        for (int k : Due.beyond(0, 3)) {
            lived.same("copy of SHEET " + k, x -> x.copy(k, 0, 0, 0, 1), -1, 0);
            lived.same("copy to SHEET " + k, x -> x.copy(0, 0, k, 0, 1), -1, 0);
            lived.same("UNKNOWN ahead of NULL", x -> x.copy(3, 0, k, 0, 1), -1, 0);
            lived.same("UNKNOWN ahead of NULL", x -> x.copy(k, 0, 3, 0, 1), -1, 0);
            lived.same("UNKNOWN ahead of INDEX", x -> x.copy(0, -1, k, -1, -1), -1, 0);
        }
        for (int k = 0; k < 3; k++) {
            int at = k;
            lived.same("NULL: the first", x -> x.copy(3, 0, at, 0, 0), -11, 1);
            lived.same("NULL: the other", x -> x.copy(at, 0, 3, 0, 0), -11, 1);
            lived.same("NULL ahead of INDEX", x -> x.copy(at, -1, 3, 0, -1), -11, 1);
            lived.same("NULL ahead of INDEX", x -> x.copy(3, -1, at, 0, -1), -11, 1);
            for (int l = 0; l < 3; l++) {
                int other = l;
                if (at == other) continue;
                lived.same("CAST of " + at + " and " + other, x -> x.copy(at, 0, other, 0, 1), -12, 2);
                lived.same("CAST, though no cells go", x -> x.copy(at, 0, other, 0, 0), -12, 2);
                lived.same("CAST ahead of INDEX", x -> x.copy(at, -1, other, 99, -1), -12, 2);
                lived.with(x -> x.lose(at)).same("nothing is no CAST", x -> x.copy(at, 0, other, 0, 1), -11, 1);
                lived.with(x -> x.lose(other)).same("nothing is no CAST", x -> x.copy(at, 0, other, 0, 1), -11, 1);
            }
        }
        lived.same("NULL of both", x -> x.copy(3, 0, 3, 0, 0), -11, 1);
    }

    /** SHEET 3 has 7 shorts, SHEET 1 has 5. */
    private static void copyIndex() {
        Twins two = lived.with(x -> {
            Due.row(x, 3, Due.SHORTS, 21, 22, 23, 24, 25, 26, 27);
            return 0;
        });
        for (int n : new int[] {-1, -2, Due.LEAST}) two.same("copy of " + n + " cells", x -> x.copy(3, 1, 1, 1, n), -13, 3);
        for (int i : Due.beyond(0, 7)) {
            two.same("no cells from " + i + " on", x -> x.copy(3, i, 1, 0, 0), -13, 3);
            two.same("a cell from " + i + " on", x -> x.copy(3, i, 1, 0, 1), -13, 3);
            two.same("most cells from " + i + " on", x -> x.copy(3, i, 1, 0, Due.MOST), -13, 3);
        }
        for (int j : Due.beyond(0, 5)) {
            two.same("no cells to " + j + " on", x -> x.copy(3, 0, 1, j, 0), -13, 3);
            two.same("a cell to " + j + " on", x -> x.copy(3, 0, 1, j, 1), -13, 3);
            two.same("most cells to " + j + " on", x -> x.copy(3, 0, 1, j, Due.MOST), -13, 3);
        }
        two.same("no cells from the end to the end", x -> x.copy(3, 7, 1, 5, 0), 0, 0);
        two.same("no cells from the begin to the begin", x -> x.copy(3, 0, 1, 0, 0), 0, 0);
        two.same("a cell from the end", x -> x.copy(3, 7, 1, 0, 1), -13, 3);
        two.same("a cell to the end", x -> x.copy(3, 0, 1, 5, 1), -13, 3);
        two.same("more than there are from i on", x -> x.copy(3, 3, 1, 0, 5), -13, 3);
        two.same("more than there are from j on", x -> x.copy(3, 0, 1, 1, 5), -13, 3);
        two.same("more than the other one has", x -> x.copy(3, 0, 1, 0, 6), -13, 3);
        two.same("more than the first one has", x -> x.copy(1, 0, 3, 0, 6), -13, 3);
        two.same("i and n together wrap", x -> x.copy(3, 1, 1, 1, Due.MOST), -13, 3);
        MornMarket x = new MornMarket();
        x.sheet(0, 0, 60);
        x.sheet(1, 0, 60);
        x.put(0, 59, 5);
        due.is("all 60 cells", x.copy(0, 0, 1, 0, 60), 60);
        due.is("the last of them", x.cell(1, 59, 0), 5);
        due.is("61 cells", x.copy(0, 0, 1, 0, 61), -13);
        x.sheet(2, 0, 0);
        due.is("no cells of a row of none", x.copy(2, 0, 2, 0, 0), 0);
        due.is("a cell of a row of none", x.copy(2, 0, 1, 0, 1), -13);
        due.is("a cell to a row of none", x.copy(1, 0, 2, 0, 1), -13);
    }

    private static void copied(String told, int from, int to, int n, int... cells) {
        MornMarket x = new MornMarket();
        Due.row(x, 2, Due.INTS, 1, 2, 3, 4, 5);
        due.is(told, x.copy(2, from, 2, to, n), n);
        due.is("fault() behind " + told, x.fault(), 0);
        for (int i = 0; i < 5; i++) due.is(told + ", cell " + i, x.cell(2, i, 2), cells[i]);
    }

    private static void copyAsTheyWere() {
        copied("upwards by one", 0, 1, 4, 1, 1, 2, 3, 4);
        copied("downwards by one", 1, 0, 4, 2, 3, 4, 5, 5);
        copied("onto themselves", 0, 0, 5, 1, 2, 3, 4, 5);
        copied("the first to the last", 0, 4, 1, 1, 2, 3, 4, 1);
        copied("the last to the first", 4, 0, 1, 5, 2, 3, 4, 5);
        copied("none", 2, 3, 0, 1, 2, 3, 4, 5);
        for (int lane = 0; lane < 3; lane++) {
            MornMarket x = new MornMarket();
            Due.row(x, 0, lane, 128, 32768, -1);
            Due.row(x, 1, lane, 7, 7, 7, 7);
            due.is("to another one", x.copy(0, 0, 1, 1, 2), 2);
            due.is("ahead of them", x.cell(1, 0, lane), 7);
            due.is("the first of them", x.cell(1, 1, lane), x.cell(0, 0, lane));
            due.is("the last of them", x.cell(1, 2, lane), x.cell(0, 1, lane));
            due.is("behind them", x.cell(1, 3, lane), 7);
            x.put(0, 0, 9);
            due.is("they are cells of their own", x.cell(1, 1, lane), lane == 0 ? -128 : 128);
        }
    }

    private static int traceOf(int trace, int... bodies) {
        int then = trace;
        for (int body : bodies) then = then * 31 + body;
        return then;
    }

    private static void tell() {
        for (int m : Due.beyond(0, 5)) lived.same("tell of MORNING " + m, x -> x.tell(m), -1);
        int[] told = {9, 107, 116, 5, 106, 3};
        int[][] bodies = {{1}, {2, 1}, {3, 2, 1, 1}, {1}, {2, 1}, {1}};
        for (int m = 0; m < 6; m++) {
            MornMarket x = Due.lived();
            due.is("tell(" + m + ")", x.tell(m), told[m]);
            due.is("TRACE behind it", x.trace(), traceOf(63, bodies[m]));
        }
        MornMarket least = Due.of("m1,00;c000;f000;p000");
        due.is("CLEAR without DEW", least.tell(0), 0);
        due.is("FROST without DEW", least.tell(1), 100);
        due.is("PAINTED without DEW", least.tell(2), 100);
        MornMarket most = Due.of("m1,00;c009;f009;p009");
        due.is("CLEAR with DEW 9", most.tell(0), 9);
        due.is("FROST with DEW 9", most.tell(1), 109);
        due.is("PAINTED with DEW 9", most.tell(2), 118);
    }

    private static void crow() {
        for (int m : Due.beyond(0, 5)) lived.same("crow of MORNING " + m, x -> x.crow(m), -1);
        int[] crowed = {0, 1, 70, 3, 4, 5};
        for (int m = 0; m < 6; m++) {
            MornMarket x = Due.lived();
            due.is("crow(" + m + ")", x.crow(m), crowed[m]);
            due.is("TRACE behind it", x.trace(), traceOf(63, m == 2 ? 5 : 4));
        }
    }

    private static void as() {
        for (int m : Due.beyond(0, 5)) {
            lived.same("as of MORNING " + m, x -> x.as(m, 0), -1, 0);
            lived.same("UNKNOWN ahead of OUTSIDE", x -> x.as(m, 3), -1, 0);
        }
        int[] kinds = {0, 1, 2, 0, 1, 0};
        for (int k = 0; k < 6; k++) {
            int m = k;
            for (int kind : Due.beyond(0, 2)) lived.same("OUTSIDE, not CAST", x -> x.as(m, kind), -2, 0);
            for (int a = 0; a < 3; a++) {
                int kind = a;
                boolean is = kind <= kinds[m];
                lived.same("MORNING " + m + " as kind " + kind, x -> x.as(m, kind), is ? 1 : -12, is ? 0 : 2);
            }
        }
    }

    private static void traceWraps() {
        MornMarket x = Due.of("m1,00;p009;c005");
        long exact = 0;
        boolean below = false;
        boolean wrapped = false;
        for (int k = 0; k < 40; k++) {
            x.crow(0);
            exact = 31 * exact + 5;
            wrapped |= exact > Due.MOST;
            exact = (int) exact;
            below |= x.trace() < 0;
            due.is("TRACE behind body " + k, x.trace(), exact);
        }
        due.is("it came to wrap", wrapped ? 1 : 0, 1);
        due.is("and was below 0", below ? 1 : 0, 1);
        due.is("TRACE asked again", x.trace(), exact);
        x.tell(2);
        x.crow(-1);
        due.is("refused calls leave nothing in it", x.trace(), exact);
        // 5 times 31^5 + 31^4 + .. + 1 still is an int.
        MornMarket y = Due.of("m1,00;p009");
        for (int k = 0; k < 6; k++) y.crow(0);
        due.is("the last that does not wrap", y.trace(), 147917280);
        y.crow(0);
        due.is("the first that wraps", y.trace(), (int) (147917280L * 31 + 5));
    }

    private static void fault() {
        due.is("0 ahead of any", new MornMarket().fault(), 0);
        due.is("0 ahead of any that names one", Due.of("m1,00;c000").fault(), 0);
        Twins.Call[] naming = {x -> x.market(0, 0, 0, 41), x -> x.year(0, 0, 0, 0, 0), x -> x.sheet(0, 0, 1), x -> x.put(0, 0, 1),
            x -> x.cell(0, 0, 0), x -> x.copy(0, 0, 0, 0, 1), x -> x.as(0, 0)};
        for (int k = 0; k < naming.length; k++) {
            MornMarket x = Due.lived();
            x.put(3, 0, 0);
            due.is("NULL", x.fault(), 1);
            due.is("asked again", x.fault(), 1);
            naming[k].on(x);
            due.is("call " + k + " that names FAULTS came to none", x.fault(), 0);
        }
        Twins.Call[] others = {x -> x.ofMorning(0, 0), x -> x.ofPerson(0, 0), x -> x.fill(0, 1), x -> x.rate(1), x -> x.fresh(0, 0),
            x -> x.price(0), x -> x.sell(0, 0), x -> x.open(0), x -> x.sleep(1), x -> x.feast(0), x -> x.keep(0, 1, 0),
            x -> x.buy(0, 0, 0), x -> x.debt(0, 0, 0), x -> x.swap(0), x -> x.reading(0, 0, 0), x -> x.back(1), x -> x.dews(0),
            x -> x.kinds(0), x -> x.takens(0), x -> x.odds(0, 0, 0), x -> x.lose(0), x -> x.tell(0), x -> x.crow(0),
            MornMarket::trace, MornMarket::fault, x -> x.many(0)};
        for (int k = 0; k < others.length; k++) {
            MornMarket x = Due.lived();
            x.sheet(0, 0, -1);
            others[k].on(x);
            due.is("call " + k + " that names none leaves it", x.fault(), 4);
        }
    }

    private static void many() {
        for (int what : Due.beyond(0, 4)) {
            lived.same("many asked " + what, x -> x.many(what), -2);
            new Twins(due, MornMarket::new).same("many asked " + what, x -> x.many(what), -2);
        }
        int[] all = {6, 3, 2, 2, 3};
        for (int k = 0; k < 5; k++) {
            int what = k;
            lived.same("many(" + what + ")", x -> x.many(what), all[what]);
        }
        MornMarket greatest = Due.of("m9,00,00,00,00;c000;c000;c000;c000;c000;c000");
        for (int n = 0; n < 11; n++) greatest.sleep(9);
        for (int k = 0; k < 8; k++) greatest.reading(0, 0, 0);
        int[] most = {6, 4, 99, 9, 8};
        for (int what = 0; what < 5; what++) due.is("the most of " + what, greatest.many(what), most[what]);
    }
}
