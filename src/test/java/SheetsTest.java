/** Promises 24 to 34: sheets, and the parts that tell. */
public final class SheetsTest {
    private static final Due due = new Due();
    private static final int LEAST = Integer.MIN_VALUE, MOST = Integer.MAX_VALUE;

    public static void main(String[] args) {
        sheet();
        lose();
        put();
        lanesCut();
        cell();
        copy();
        copyOntoItself();
        tell();
        crow();
        as();
        trace();
        fault();
        many();
        due.end();
    }

    private static void answers(MornMarket x, String call, long got, long answer, int fault) {
        due.is(call, got, answer);
        due.is("fault behind " + call, x.fault(), fault);
    }

    private static void sheet() {
        MornMarket x = new MornMarket();
        for (int k = 0; k < 4; k++) {
            answers(x, "sheet", x.sheet(k, k % 3, 60), 1, 0);
            due.is("last cell", x.cell(k, 59, k % 3), 0);
        }
        x.put(0, 3, 7);
        answers(x, "no SHEET", x.sheet(4, 3, -1), -1, 0);
        answers(x, "no SHEET", x.sheet(-1, 0, 1), -1, 0);
        answers(x, "lane 3", x.sheet(0, 3, -1), -2, 0);
        answers(x, "lane -1", x.sheet(0, -1, 1), -2, 0);
        answers(x, "n 61", x.sheet(0, 0, 61), -2, 0);
        answers(x, "n far above", x.sheet(0, 0, MOST), -2, 0);
        answers(x, "n -1", x.sheet(0, 0, -1), -14, 4);
        answers(x, "n far below", x.sheet(0, 0, LEAST), -14, 4);
        due.is("the row is as it was", x.cell(0, 3, 0), 7);
        answers(x, "a row anew", x.sheet(0, 2, 5), 1, 0);
        due.is("0 at first", x.cell(0, 3, 2), 0);
        answers(x, "beyond the new row", x.cell(0, 5, 2), Due.LOST, 3);
        answers(x, "a row of none", x.sheet(0, 1, 0), 1, 0);
        answers(x, "no cell of it", x.cell(0, 0, 1), Due.LOST, 3);
        due.is("it is a row", x.lose(0), 1);
    }

    private static void lose() {
        MornMarket x = new MornMarket();
        due.is("lose nothing", x.lose(2), 0);
        x.sheet(2, 0, 3);
        x.put(2, 0, 9);
        x.put(2, 3, 9);
        due.is("lose", x.lose(2), 1);
        due.is("lose names no FAULT", x.fault(), 3);
        due.is("lose again", x.lose(2), 0);
        answers(x, "cell of what is lost", x.cell(2, 0, 0), Due.LOST, 1);
        due.is("no SHEET", x.lose(4), -1);
        due.is("no SHEET", x.lose(-1), -1);
        x.sheet(2, 0, 3);
        due.is("0 at first again", x.cell(2, 0, 0), 0);
    }

    private static void put() {
        MornMarket x = new MornMarket();
        answers(x, "put to nothing", x.put(1, 99, 5), -11, 1);
        x.sheet(1, 2, 3);
        answers(x, "put", x.put(1, 0, -5), 1, 0);
        answers(x, "put to the last", x.put(1, 2, MOST), 1, 0);
        answers(x, "put beyond", x.put(1, 3, 5), -13, 3);
        answers(x, "put below", x.put(1, -1, 5), -13, 3);
        answers(x, "put far beyond", x.put(1, MOST, 5), -13, 3);
        answers(x, "put far below", x.put(1, LEAST, 5), -13, 3);
        answers(x, "no SHEET", x.put(4, 0, 5), -1, 0);
        answers(x, "no SHEET", x.put(-1, 0, 5), -1, 0);
        due.is("first cell", x.cell(1, 0, 2), -5);
        due.is("second cell", x.cell(1, 1, 2), 0);
        due.is("last cell", x.cell(1, 2, 2), MOST);
    }

    private static void lanesCut() {
        MornMarket x = new MornMarket();
        int[] values = {127, 128, 255, 256, -128, -129, 32767, 32768, 65535, 65536, -32768, -32769, MOST, LEAST, 1000000};
        for (int v : values) {
            Due.row(x, 0, Due.BYTES, v);
            Due.row(x, 1, Due.SHORTS, v);
            Due.row(x, 2, Due.INTS, v);
            due.is("byte of " + v, x.cell(0, 0, 0), (byte) v);
            due.is("short of " + v, x.cell(1, 0, 1), (short) v);
            due.is("int of " + v, x.cell(2, 0, 2), v);
        }
    }

    private static void cell() {
        MornMarket x = new MornMarket();
        Due.row(x, 0, Due.SHORTS, 11, 12, 13);
        answers(x, "cell", x.cell(0, 2, 1), 13, 0);
        answers(x, "CAST is ahead of INDEX", x.cell(0, 3, 0), Due.LOST, 2);
        answers(x, "CAST", x.cell(0, 0, 2), Due.LOST, 2);
        answers(x, "nothing is no CAST", x.cell(1, 0, 2), Due.LOST, 1);
        answers(x, "INDEX beyond", x.cell(0, 3, 1), Due.LOST, 3);
        answers(x, "INDEX below", x.cell(0, -1, 1), Due.LOST, 3);
        answers(x, "INDEX far below", x.cell(0, LEAST, 1), Due.LOST, 3);
        answers(x, "INDEX far beyond", x.cell(0, MOST, 1), Due.LOST, 3);
        answers(x, "no SHEET", x.cell(4, 0, 1), Due.LOST, 0);
        answers(x, "no SHEET", x.cell(-1, 0, 1), Due.LOST, 0);
        answers(x, "lane 3", x.cell(0, 9, 3), Due.LOST, 0);
        answers(x, "lane -1", x.cell(1, 0, -1), Due.LOST, 0);
    }

    private static void copy() {
        MornMarket x = new MornMarket();
        answers(x, "no SHEET", x.copy(4, 0, 0, 0, 0), -1, 0);
        answers(x, "no other SHEET", x.copy(0, 0, -1, 0, 0), -1, 0);
        answers(x, "nothing at all", x.copy(0, 9, 1, 9, -1), -11, 1);
        Due.row(x, 0, Due.INTS, 1, 2, 3, 4, 5);
        answers(x, "nothing there", x.copy(0, 0, 1, 0, 1), -11, 1);
        answers(x, "nothing here", x.copy(1, 0, 0, 0, 1), -11, 1);
        x.sheet(1, 1, 4);
        answers(x, "unlike LANES", x.copy(0, 9, 1, 0, -1), -12, 2);
        x.sheet(1, 2, 4);
        answers(x, "copy", x.copy(0, 1, 1, 0, 3), 3, 0);
        due.is("first copied", x.cell(1, 0, 2), 2);
        due.is("last copied", x.cell(1, 2, 2), 4);
        due.is("behind the last", x.cell(1, 3, 2), 0);
        due.is("as it was", x.cell(0, 1, 2), 2);
        answers(x, "copy all that fits", x.copy(0, 0, 1, 0, 4), 4, 0);
        answers(x, "beyond there", x.copy(0, 0, 1, 0, 5), -13, 3);
        answers(x, "beyond here", x.copy(0, 3, 1, 0, 3), -13, 3);
        answers(x, "beyond there by j", x.copy(0, 0, 1, 2, 3), -13, 3);
        answers(x, "n below 0", x.copy(0, 0, 1, 0, -1), -13, 3);
        answers(x, "i below 0", x.copy(0, -1, 1, 0, 1), -13, 3);
        answers(x, "j below 0", x.copy(0, 0, 1, -1, 1), -13, 3);
        answers(x, "none, from the ends", x.copy(0, 5, 1, 4, 0), 0, 0);
        answers(x, "none, from beyond", x.copy(0, 6, 1, 4, 0), -13, 3);
        answers(x, "none, to beyond", x.copy(0, 5, 1, 5, 0), -13, 3);
        answers(x, "none, from below", x.copy(0, -1, 1, 0, 0), -13, 3);
        answers(x, "none, to below", x.copy(0, 0, 1, -1, 0), -13, 3);
        answers(x, "far beyond", x.copy(0, MOST, 1, MOST, MOST), -13, 3);
        answers(x, "far beyond by n", x.copy(0, 1, 1, 1, MOST), -13, 3);
        answers(x, "far below", x.copy(0, LEAST, 1, LEAST, LEAST), -13, 3);
        due.is("as it was", x.cell(1, 0, 2), 1);
        due.is("as it was", x.cell(1, 3, 2), 4);
    }

    private static void copyOntoItself() {
        MornMarket x = new MornMarket();
        Due.row(x, 3, Due.BYTES, 1, 2, 3, 4, 5);
        answers(x, "copy upwards", x.copy(3, 0, 3, 1, 4), 4, 0);
        int[] up = {1, 1, 2, 3, 4};
        for (int i = 0; i < 5; i++) due.is("upwards " + i, x.cell(3, i, 0), up[i]);
        answers(x, "copy downwards", x.copy(3, 2, 3, 0, 3), 3, 0);
        int[] down = {2, 3, 4, 3, 4};
        for (int i = 0; i < 5; i++) due.is("downwards " + i, x.cell(3, i, 0), down[i]);
    }

    private static int traceOf(int... bodies) {
        int trace = 0;
        for (int body : bodies) trace = trace * 31 + body;
        return trace;
    }

    private static void tell() {
        MornMarket x = Due.of("m1,00;c005;f007;p009;c000");
        due.is("TELLING of a CLEAR one", x.tell(0), 5);
        due.is("TRACE", x.trace(), traceOf(1));
        due.is("TELLING of a FROST", x.tell(1), 107);
        due.is("TRACE", x.trace(), traceOf(1, 2, 1));
        due.is("TELLING of a PAINTED one", x.tell(2), 118);
        due.is("TRACE", x.trace(), traceOf(1, 2, 1, 3, 2, 1, 1));
        due.is("no MORNING", x.tell(4), -1);
        due.is("no MORNING", x.tell(-1), -1);
        due.is("TRACE", x.trace(), traceOf(1, 2, 1, 3, 2, 1, 1));
        x.sleep(9);
        x.open(0);
        due.is("DEW, not how FRESH it is", x.tell(0), 5);
    }

    private static void crow() {
        MornMarket x = Due.of("m1,00;c005;f007;p009;c000");
        due.is("CROWED, CLEAR", x.crow(0), 0);
        due.is("CROWED, FROST", x.crow(1), 1);
        due.is("CROWED, PAINTED", x.crow(2), 70);
        due.is("CROWED, CLEAR", x.crow(3), 3);
        due.is("TRACE", x.trace(), traceOf(4, 4, 5, 4));
        due.is("no MORNING", x.crow(4), -1);
        due.is("no MORNING", x.crow(-1), -1);
        due.is("TRACE", x.trace(), traceOf(4, 4, 5, 4));
    }

    private static void as() {
        MornMarket x = Due.of("m1,00;c005;f007;p009");
        for (int m = 0; m < 3; m++) {
            for (int kind = 0; kind < 3; kind++) {
                boolean is = kind <= m;
                answers(x, "as(" + m + ", " + kind + ")", x.as(m, kind), is ? 1 : -12, is ? 0 : 2);
            }
            answers(x, "kind 3", x.as(m, 3), -2, 0);
            answers(x, "kind -1", x.as(m, -1), -2, 0);
        }
        answers(x, "no MORNING", x.as(3, 3), -1, 0);
        answers(x, "no MORNING", x.as(-1, 0), -1, 0);
        due.is("no body began", x.trace(), 0);
    }

    private static void trace() {
        MornMarket x = Due.of("m1,00;p009");
        int want = 0;
        for (int k = 0; k < 20; k++) {
            x.tell(0);
            x.crow(0);
            for (int body : new int[] {3, 2, 1, 1, 5}) want = want * 31 + body;
            due.is("TRACE wraps", x.trace(), want);
        }
        Due.told(x, "m1,00;c000");
        due.is("TRACE stays with a MARKET anew", x.trace(), want);
    }

    private static void fault() {
        MornMarket x = Due.of(Due.SIX);
        x.put(1, 0, 0);
        // None of these names a FAULT, so the latest one stays.
        x.many(9);
        x.ofMorning(9, 9);
        x.ofPerson(0, 0);
        x.fill(0, 50);
        x.rate(3);
        x.fresh(0, 0);
        x.price(0);
        x.sell(0, 1);
        x.open(0);
        x.sleep(1);
        x.feast(0);
        x.keep(0, 1, 0);
        x.buy(0, 1, 0);
        x.debt(0, 1, 0);
        x.swap(0);
        x.reading(0, 0, 0);
        x.back(1);
        x.dews(0);
        x.kinds(0);
        x.takens(0);
        x.odds(0, 0, 0);
        x.lose(1);
        x.tell(0);
        x.crow(0);
        x.trace();
        due.is("the latest FAULT", x.fault(), 1);
        due.is("the latest FAULT, asked again", x.fault(), 1);
        x.as(0, 2);
        due.is("CAST", x.fault(), 2);
        x.as(0, 0);
        due.is("came to none", x.fault(), 0);
        x.sheet(0, 0, -1);
        due.is("SIZE", x.fault(), 4);
        x.year(9, 0, 0, 0, 0);
        due.is("was refused", x.fault(), 0);
        x.cell(0, 99, 0);
        due.is("INDEX", x.fault(), 3);
        x.market(0, 0, 0, 3);
        due.is("a FIRST FAULT is none", x.fault(), 0);
        x.copy(0, 0, 2, 0, 0);
        due.is("NULL", x.fault(), 1);
        x.copy(0, 0, 9, 0, 0);
        due.is("was refused", x.fault(), 0);
    }

    private static void many() {
        MornMarket x = new MornMarket();
        due.is("what -1", x.many(-1), -2);
        due.is("what 5", x.many(5), -2);
        Due.told(x, Due.SIX);
        x.sleep(7);
        x.reading(0, 0, 9);
        x.open(3);
        due.is("MORNINGS, OPENED ones, too", x.many(0), 6);
        due.is("PEOPLE", x.many(1), 3);
        due.is("DAY", x.many(2), 7);
        due.is("RATE", x.many(3), 2);
        due.is("READINGS", x.many(4), 1);
        due.is("what 5", x.many(5), -2);
    }
}
