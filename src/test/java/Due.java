/** What the tests share: answers that are due, and rows and texts put on sheets. */
final class Due {
    static final long LOST = Long.MIN_VALUE;
    static final int BYTES = 0, SHORTS = 1, INTS = 2;
    static final int LEAST = Integer.MIN_VALUE, MOST = Integer.MAX_VALUE;
    /** Three people; MORNINGS 0, 1, 5 are the first one's, 2, 3 the second one's, 4 the third one's. */
    static final String SIX = "m2,40,99,07;c009;f017;p108;c125;f206;c013";

    private int wrong = 0;

    void is(String call, long got, long want) {
        if (got != want) {
            wrong++;
            System.out.println(call + " answered " + got + ", due is " + want);
        }
    }

    void end() {
        System.out.println(wrong == 0 ? "all answers are as due" : wrong + " answers are not as due");
        if (wrong != 0) System.exit(1);
    }

    static void row(MornMarket x, int k, int lane, int... cells) {
        x.sheet(k, lane, cells.length);
        for (int i = 0; i < cells.length; i++) {
            x.put(k, i, cells[i]);
        }
    }

    static int told(MornMarket x, String text) {
        row(x, 0, BYTES, text.chars().toArray());
        return x.market(0, BYTES, 0, text.length());
    }

    static MornMarket of(String text) {
        MornMarket x = new MornMarket();
        if (told(x, text) < 0) throw new IllegalArgumentException(text);
        return x;
    }

    static int yearOf(MornMarket x, int what, int... cells) {
        row(x, 1, INTS, cells);
        return x.year(1, INTS, 0, cells.length / 2, what);
    }

    /** The first numbers on either side that are not least .. most, and the farthest ones. */
    static int[] beyond(int least, int most) {
        return new int[] {least - 1, most + 1, LEAST, MOST};
    }

    /** Rows of 41 bytes (the text SIX), 5 shorts and 4 ints on SHEETS 0 to 2, nothing on 3; no MARKET. */
    static MornMarket onlySheets() {
        MornMarket x = new MornMarket();
        row(x, 0, BYTES, SIX.chars().toArray());
        row(x, 1, SHORTS, 7, 3, 9, 1, 8);
        row(x, 2, INTS, 100000, -100000, MOST, LEAST);
        return x;
    }

    /**
     * The same SHEETS, and SIX on DAY 2: purses 62, 81, 3; MORNINGS 2 and 3 (the second one's) are OPENED, 0 was SOLD to
     * the second one, 5 to the third one; JOY 0, 9, 0; three READINGS, which are so; TRACE 63.
     */
    static MornMarket lived() {
        MornMarket x = onlySheets();
        x.market(0, BYTES, 0, SIX.length());
        x.sell(0, 1);
        x.open(2);
        x.reading(0, 3, 6);
        x.reading(1, 4, 6);
        x.reading(2, 2, 3);
        x.sleep(2);
        x.open(3);
        x.sell(5, 2);
        x.tell(1);
        return x;
    }
}
