import java.util.Random;

/** Part 5, and the taking of texts, held against the Java machine's own rows, casts and bodies. The seed is fixed. */
public final class MachineTest {
    private static final Due due = new Due();
    /** Three calls a step beside those that put a text: within the 512 that are promised. */
    private static final int STEPS = 100, TEXTS_OF_A_LIFE = 3;
    private static final int[] EDGES = {Integer.MIN_VALUE, -129, -61, -2, 59, 60, 61, 127, 128, 32768, 65536, Integer.MAX_VALUE};

    private final Random random;
    private final MornMarket x = new MornMarket();
    private final Machine machine = new Machine();

    private MachineTest(int seed) {
        random = new Random(seed);
    }

    public static void main(String[] args) {
        for (int seed = 0; seed < 1500; seed++) new MachineTest(seed).lives();
        due.end();
    }

    private void lives() {
        for (int text = 0; text < TEXTS_OF_A_LIFE; text++) {
            putsText();
            for (int step = 0; step < STEPS / TEXTS_OF_A_LIFE; step++) steps();
        }
    }

    private int any(int least, int most) {
        if (random.nextInt(25) == 0) return EDGES[random.nextInt(EDGES.length)];
        return least + random.nextInt(most - least + 1);
    }

    private void same(String call, long got, long want) {
        due.is(call, got, want);
        due.is(call + ": fault()", x.fault(), machine.fault);
        due.is(call + ": trace()", x.trace(), machine.trace);
    }

    private void putsText() {
        String text = text();
        int lane = random.nextInt(3);
        int k = random.nextInt(4);
        x.sheet(k, lane, text.length());
        machine.sheet(k, lane, text.length());
        for (int i = 0; i < text.length(); i++) {
            x.put(k, i, text.charAt(i));
            machine.put(k, i, text.charAt(i));
        }
        int n = text.length() - (random.nextInt(4) == 0 ? random.nextInt(text.length() + 1) : 0);
        same("market of " + text + " up to " + n, x.market(k, lane, 0, n), machine.market(k, lane, 0, n));
        due.is("MORNINGS behind " + text, x.many(0), machine.many());
    }

    /** Mostly a TEXT, or one of which one code is another one, or that has a PERSON or MORNING too many or too few. */
    private String text() {
        StringBuilder text = new StringBuilder("m").append(1 + random.nextInt(9));
        int people = random.nextInt(20) == 0 ? 5 : random.nextInt(30) == 0 ? 0 : 1 + random.nextInt(4);
        for (int p = 0; p < people; p++) text.append(',').append(random.nextInt(10)).append(random.nextInt(10));
        int mornings = random.nextInt(20) == 0 ? 7 : random.nextInt(30) == 0 ? 0 : 1 + random.nextInt(6);
        for (int m = 0; m < mornings; m++) {
            text.append(';').append("cfp".charAt(random.nextInt(3))).append(random.nextInt(Math.max(1, people)));
            text.append(random.nextInt(10)).append(random.nextInt(10));
        }
        if (random.nextInt(3) == 0) text.setCharAt(random.nextInt(text.length()), "m,;cfp0123456789:/x".charAt(random.nextInt(19)));
        return text.toString();
    }

    private void steps() {
        int k = any(-1, 4);
        int i = any(-1, 12);
        int other = any(-1, 4);
        int j = any(-1, 12);
        int n = any(-1, 12);
        int lane = any(-1, 3);
        int m = any(-1, 6);
        int v = random.nextInt(3) == 0 ? random.nextInt() : any(-200, 200);
        switch (random.nextInt(10)) {
            case 0: same("sheet " + k + " " + lane + " " + n, x.sheet(k, lane, n), machine.sheet(k, lane, n)); break;
            case 1: same("lose " + k, x.lose(k), machine.lose(k)); break;
            case 2: same("put " + k + " " + i + " " + v, x.put(k, i, v), machine.put(k, i, v)); break;
            case 3:
            case 4: same("cell " + k + " " + i + " " + lane, x.cell(k, i, lane), machine.cell(k, i, lane)); break;
            case 5: same("copy " + k + " " + i + " " + other + " " + j + " " + n, x.copy(k, i, other, j, n), machine.copy(k, i, other, j, n)); break;
            case 6: same("tell " + m, x.tell(m), machine.tell(m)); break;
            case 7: same("crow " + m, x.crow(m), machine.crow(m)); break;
            case 8: same("as " + m + " " + lane, x.as(m, lane), machine.as(m, lane)); break;
            default: same("market " + k + " " + lane + " " + i + " " + n, x.market(k, lane, i, n), machine.market(k, lane, i, n)); break;
        }
    }
}
