/** What the tests share: answers that are due, and rows and texts put on sheets. */
final class Due {
    static final long LOST = Long.MIN_VALUE;
    static final int BYTES = 0, SHORTS = 1, INTS = 2;
    /** Three people; MORNINGS 0, 1, 5 are the first one's, 2, 3 the second one's, 4 the third one's. */
    static final String SIX = "m2,40,99,07;c009;f017;p108;c125;f206;c013";

    private int wrong = 0;

    void is(String call, long got, long want) {
        if (got != want) {
            wrong++;
            System.out.println(call + " answered " + got + ", due is " + want);
        }
    }

    void end() {
        System.out.println(wrong == 0 ? "all answers are as due" : wrong + " answers are not as due");
        if (wrong != 0) System.exit(1);
    }

    static void row(MornMarket x, int k, int lane, int... cells) {
        x.sheet(k, lane, cells.length);
        for (int i = 0; i < cells.length; i++) {
            x.put(k, i, cells[i]);
        }
    }

    static int told(MornMarket x, String text) {
        row(x, 0, BYTES, text.chars().toArray());
        return x.market(0, BYTES, 0, text.length());
    }

    static MornMarket of(String text) {
        MornMarket x = new MornMarket();
        if (told(x, text) < 0) throw new IllegalArgumentException(text);
        return x;
    }

    static int yearOf(MornMarket x, int what, int... cells) {
        row(x, 1, INTS, cells);
        return x.year(1, INTS, 0, cells.length / 2, what);
    }
}
