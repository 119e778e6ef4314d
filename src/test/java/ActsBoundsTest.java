/** The ends of promises 9 to 11: what can't be SOLD or OPENED, DAYS that can't go by, and that nothing is changed then. */
public final class ActsBoundsTest {
    private static final Due due = new Due();
    private static final Twins lived = new Twins(due, Due::lived);
    private static final Twins onlySheets = new Twins(due, Due::onlySheets);

    public static void main(String[] args) {
        sellUnknown();
        sellOpened();
        sellToTheOwner();
        sellAboveThePurse();
        sellForNothing();
        pursesAbove99();
        sellTakesThePriceOfThatDay();
        openUnknownAndState();
        openHalf();
        openedOnThatDay();
        sleepOutside();
        sleepState();
        due.end();
    }

    private static void sellUnknown() {
        for (int m : Due.beyond(0, 5)) {
            lived.same("sell of MORNING " + m, x -> x.sell(m, 0), -1);
            lived.same("neither MORNING nor PERSON", x -> x.sell(m, 3), -1);
        }
        for (int p : Due.beyond(0, 2)) {
            lived.same("sell to PERSON " + p, x -> x.sell(0, p), -1);
            lived.same("UNKNOWN ahead of STATE: it is OPENED", x -> x.sell(2, p), -1);
        }
        MornMarket x = Due.lived();
        due.is("the last MORNING to the first PERSON", x.sell(5, 0), 4);
        due.is("the first MORNING to the first PERSON", x.sell(0, 0), 14);
        x.fill(2, 99);
        due.is("the first MORNING to the last PERSON", x.sell(0, 2), 14);
    }

    private static void sellOpened() {
        for (int p = 0; p < 3; p++) {
            int to = p;
            lived.same("sell of an OPENED one to " + to, x -> x.sell(3, to), -3);
        }
        lived.with(x -> x.sleep(9)).same("sell of an OPENED one that costs nothing", x -> x.sell(3, 0), -3);
    }

    private static void sellToTheOwner() {
        lived.same("sell to the one who bought it", x -> x.sell(0, 1), -3);
        lived.same("sell to the one who has it by the TEXT", x -> x.sell(1, 0), -3);
        lived.with(x -> x.sleep(9)).same("sell to the OWNER for nothing", x -> x.sell(0, 1), -3);
        due.is("sell back to the one who had it", Due.lived().sell(0, 0), 14);
    }

    private static void sellAboveThePurse() {
        lived.with(x -> x.fill(2, 13)).same("a penny too few", x -> x.sell(0, 2), -3);
        lived.with(x -> x.fill(2, 0)).same("no PENCE", x -> x.sell(0, 2), -3);
        MornMarket x = Due.lived();
        x.fill(2, 14);
        due.is("just enough", x.sell(0, 2), 14);
        due.is("nothing is left", x.ofPerson(2, 0), 0);
        due.is("it goes to the OWNER", x.ofPerson(1, 0), 95);
        due.is("whose it is", x.ofMorning(0, 1), 2);
        MornMarket y = Due.lived();
        y.fill(2, 15);
        y.sell(0, 2);
        due.is("a penny is left", y.ofPerson(2, 0), 1);
    }

    private static void sellForNothing() {
        MornMarket x = Due.of("m9,00,00;c099;c000");
        due.is("ahead of its DAY, with no PENCE", x.sell(0, 1), 0);
        due.is("whose it is", x.ofMorning(0, 1), 1);
        due.is("without DEW", x.sell(1, 1), 0);
        due.is("PURSE of the buyer", x.ofPerson(1, 0), 0);
        due.is("PURSE of the seller", x.ofPerson(0, 0), 0);
    }

    private static void pursesAbove99() {
        MornMarket x = Due.of("m9,99,99,99;c009;c009;c109");
        due.is("sell", x.sell(0, 1), 81);
        due.is("PURSE above 99", x.ofPerson(0, 0), 180);
        due.is("sell", x.sell(1, 2), 81);
        due.is("PURSE far above 99", x.ofPerson(0, 0), 261);
        due.is("sell for what is in it", x.sell(0, 0), 81);
        due.is("sell again", x.sell(1, 0), 81);
        due.is("and again", x.sell(2, 0), 81);
        due.is("what is left", x.ofPerson(0, 0), 18);
        due.is("PURSE of the second one", x.ofPerson(1, 0), 180);
        due.is("what fill answers above 99", x.fill(1, 99), 180);
    }

    private static void sellTakesThePriceOfThatDay() {
        MornMarket x = Due.of("m3,00,24;c009");
        due.is("too dear today", x.sell(0, 1), -3);
        x.sleep(1);
        due.is("not the next DAY", x.sell(0, 1), 24);
    }

    private static void openUnknownAndState() {
        for (int m : Due.beyond(0, 5)) lived.same("open of MORNING " + m, x -> x.open(m), -1);
        for (int m : new int[] {2 + 32, 3 + 32, 2 - 32, 3 + 256}) lived.same("UNKNOWN ahead of STATE: MORNING " + m, x -> x.open(m), -1);
        lived.same("OPENED today", x -> x.open(3), -3);
        lived.same("OPENED ahead of today", x -> x.open(2), -3);
        MornMarket x = Due.lived();
        due.is("open of the first MORNING", x.open(0), 3);
        due.is("open of the last MORNING", x.open(5), 2);
    }

    private static void openHalf() {
        for (int dew = 0; dew <= 9; dew++) {
            MornMarket x = Due.of("m1,00;c00" + dew + ";c00" + dew);
            due.is("the first of the DAY with DEW " + dew, x.open(0), dew);
            due.is("half of " + dew + ", cut", x.open(1), dew / 2);
            due.is("JOY of both", x.ofPerson(0, 1), dew + dew / 2);
        }
        MornMarket y = Due.of("m1,00;p007;p007");
        due.is("a PAINTED one", y.open(0), 3);
        due.is("half of a half, cut twice", y.open(1), 1);
    }

    private static void openedOnThatDay() {
        MornMarket x = Due.of("m1,99,99;c009;c009;c109;f009;c000");
        due.is("one without JOY is OPENED, too", x.open(4), 0);
        due.is("half, as one was OPENED", x.open(0), 4);
        due.is("another PERSON's first", x.open(2), 9);
        due.is("bought by one who OPENED one", x.sell(1, 1), 9);
        due.is("half for the new OWNER", x.open(1), 4);
        x.sleep(0);
        due.is("0 DAYS: still that DAY", x.ofPerson(0, 3), 1);
        x.sleep(1);
        due.is("a DAY: no more", x.ofPerson(0, 3), 0);
        due.is("all of it on the next DAY", x.open(3), 9);
        MornMarket y = Due.of("m1,99,99;c009;c009;c109");
        y.open(0);
        y.sell(1, 1);
        due.is("SOLD by one who OPENED one, all for the new OWNER", y.open(1), 9);
        MornMarket z = Due.of("m1,00;f009;f009");
        z.sleep(9);
        z.open(0);
        z.sleep(9);
        due.is("9 DAYS later", z.open(1), 3);
        due.is("JOY in all", z.ofPerson(0, 1), 9);
        MornMarket last = Due.of("m1,00;f009;f009");
        for (int n = 0; n < 11; n++) last.sleep(9);
        due.is("on DAY 99", last.open(0), 0);
        due.is("OPENED on DAY 99", last.ofPerson(0, 3), 1);
    }

    private static void sleepOutside() {
        for (int n : Due.beyond(0, 9)) {
            lived.same("sleep of " + n, x -> x.sleep(n), -2);
            onlySheets.same("OUTSIDE ahead of STATE: no MARKET", x -> x.sleep(n), -2);
            lived.with(ActsBoundsTest::until99).same("OUTSIDE ahead of STATE: above 99", x -> x.sleep(n), -2);
        }
        for (int n = 0; n <= 9; n++) {
            MornMarket x = Due.lived();
            due.is("sleep of " + n, x.sleep(n), 2 + n);
            due.is("the DAY", x.many(2), 2 + n);
        }
    }

    private static long until99(MornMarket x) {
        for (int n = 0; n < 10; n++) x.sleep(9);
        return x.sleep(7);
    }

    private static void sleepState() {
        for (int k = 0; k <= 9; k++) {
            int n = k;
            onlySheets.same("sleep of " + n + " without a MARKET", x -> x.sleep(n), -3);
            Twins late = lived.with(ActsBoundsTest::until99);
            if (n > 0) late.same("sleep of " + n + " on DAY 99", x -> x.sleep(n), -3);
            MornMarket y = Due.of(Due.SIX);
            for (int s = 0; s < 10; s++) y.sleep(9);
            y.sleep(9 - n);
            due.is("sleep of " + n + " to DAY 99", y.sleep(n), 99);
            due.is("the DAY", y.many(2), 99);
        }
        lived.with(ActsBoundsTest::until99).same("sleep of 0 on DAY 99", x -> x.sleep(0), 99);
        Twins day91 = lived.with(x -> {
            for (int n = 0; n < 9; n++) x.sleep(9);
            return x.sleep(8);
        });
        day91.same("it is DAY 91", x -> x.many(2), 91);
        day91.same("it would be DAY 100", x -> x.sleep(9), -3);
    }
}
