import java.util.Random;

/** Many markets, each lived in for a while, held against the model. The seed is fixed: each run is the same. */
public final class ModelTest {
    private static final Due due = new Due();
    private static final int[] WHATS = {0, 1, 2, 3, 10, 11, 12, 13, 20, 21, 22, 23, 30, 31, 32, 33, 34, 35};

    public static void main(String[] args) {
        Random random = new Random(20261118);
        for (int k = 0; k < 2400; k++) {
            String text = textBy(random);
            MornMarket x = Due.of(text);
            Model model = new Model(text);
            // One comparison an object, as nothing is promised behind its 512th call.
            for (int act = 0; act < 3 + 3 * (k % 4); act++) acts(random, x, model);
            compare(random, text, x, model);
        }
        due.end();
    }

    private static String textBy(Random random) {
        StringBuilder text = new StringBuilder("m").append(1 + random.nextInt(random.nextBoolean() ? 2 : 9));
        int people = 1 + random.nextInt(4);
        for (int p = 0; p < people; p++) text.append(',').append(random.nextInt(10)).append(random.nextInt(10));
        int mornings = 1 + random.nextInt(6);
        int latest = 1 + random.nextInt(10);
        for (int m = 0; m < mornings; m++) {
            text.append(';').append("cfp".charAt(random.nextInt(3))).append(random.nextInt(people));
            text.append(random.nextInt(latest)).append(random.nextInt(10));
        }
        return text.toString();
    }

    private static void acts(Random random, MornMarket x, Model model) {
        int m = random.nextInt(model.mornings.size());
        int p = random.nextInt(model.purses.size());
        switch (random.nextInt(6)) {
            case 0:
                int price = model.price(m);
                due.is("sell", x.sell(m, p), model.sells(m, p) ? price : -3);
                break;
            case 1:
                int owner = model.mornings.get(m).owner;
                int before = model.joys.get(owner);
                due.is("open", x.open(m), model.opens(m) ? model.joys.get(owner) - before : -3);
                break;
            case 2:
                int days = random.nextInt(3);
                due.is("sleep", x.sleep(days), model.sleeps(days) ? model.day : -3);
                break;
            case 3:
                int pence = random.nextInt(100);
                due.is("fill", x.fill(p, pence), model.purses.set(p, pence));
                break;
            case 4:
                int day = random.nextInt(20);
                // Mostly true ones, as a false one soon leaves nothing open.
                int fresh = random.nextInt(8) == 0 ? random.nextInt(10) : model.mornings.get(m).fresh(day);
                boolean full = model.readings.size() == 8;
                due.is("reading", x.reading(m, day, fresh), full ? -4 : model.readings.size());
                if (!full) model.readings.add(new int[] {m, day, fresh});
                break;
            default:
                int back = random.nextInt(1 + model.readings.size());
                for (int k = 0; k < back; k++) model.readings.remove(model.readings.size() - 1);
                due.is("back", x.back(back), model.readings.size());
        }
    }

    private static void compare(Random random, String text, MornMarket x, Model model) {
        String of = text + " on " + model.day + ": ";
        for (int m = 0; m < model.mornings.size(); m++) {
            due.is(of + "price " + m, x.price(m), model.price(m));
            due.is(of + "dews " + m, x.dews(m), model.dews(m));
            due.is(of + "kinds " + m, x.kinds(m), model.kinds(m));
            due.is(of + "takens " + m, x.takens(m), model.takens(m));
            int t = random.nextInt(40);
            due.is(of + "fresh " + m, x.fresh(m, t), model.mornings.get(m).fresh(t));
        }
        for (int p = 0; p < model.purses.size(); p++) {
            comparePerson(random, of, x, model, p);
        }
        int[] swap = model.swap();
        for (int what = 0; what < 3; what++) due.is(of + "swap " + what, x.swap(what), swap[what]);
        compareYear(random, of, x, model);
    }

    private static void comparePerson(Random random, String of, MornMarket x, Model model, int p) {
        due.is(of + "purse " + p, x.ofPerson(p, 0), model.purses.get(p));
        due.is(of + "joy " + p, x.ofPerson(p, 1), model.joys.get(p));
        due.is(of + "closed " + p, x.ofPerson(p, 2), model.closedOf(p).size());
        due.is(of + "feast " + p, x.feast(p), model.feast(p, model.closedOf(p)));
        int n = 1 + random.nextInt(3);
        int[] keep = model.keep(p, n);
        due.is(of + "keep " + p + " " + n, x.keep(p, n, -1), keep[6]);
        for (int k = 0; k < 6; k++) due.is(of + "keep " + p + " " + n + " " + k, x.keep(p, n, k), keep[k]);
        for (int k = 0; k < 3; k++) {
            int v = random.nextInt(30);
            int[] buy = model.buy(p, v);
            due.is(of + "buy " + p + " " + v, x.buy(p, v, 0), buy[0]);
            due.is(of + "buy set " + p + " " + v, x.buy(p, v, 1), buy[1]);
            int owed = random.nextInt(50);
            int[] debt = model.debt(p, owed);
            due.is(of + "debt " + p + " " + owed, x.debt(p, owed, 0), debt[0]);
            due.is(of + "debt set " + p + " " + owed, x.debt(p, owed, 1), debt[1]);
            long[] odds = model.odds(p, v);
            due.is(of + "odds " + p + " " + v, x.odds(p, v, 0), odds[0]);
            due.is(of + "odds' lower " + p + " " + v, x.odds(p, v, 1), odds[1]);
        }
    }

    private static void compareYear(Random random, String of, MornMarket x, Model model) {
        int[] cells = new int[2 * random.nextInt(8)];
        for (int k = 0; k < cells.length; k += 2) {
            cells[k] = random.nextInt(model.mornings.size());
            cells[k + 1] = new int[] {random.nextInt(4), random.nextInt(2), 8, 9}[random.nextInt(4)];
            if (random.nextInt(60) == 0) cells[k + random.nextInt(2)] = random.nextInt(14) - 2;
        }
        Due.row(x, 1, Due.INTS, cells);
        for (int what : WHATS) {
            String call = of + "year " + java.util.Arrays.toString(cells) + " " + what;
            due.is(call, x.year(1, Due.INTS, 0, cells.length / 2, what), model.year(cells, what));
        }
    }
}
