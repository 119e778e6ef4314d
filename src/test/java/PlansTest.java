/** Promises 13 to 17: feast, keep, buy, debt, swap. */
public final class PlansTest {
    private static final Due due = new Due();

    public static void main(String[] args) {
        feast();
        keepOfSix();
        keepTakesTheFirstRow();
        keepWhenOneWasOpened();
        refusalsOfKeep();
        buy();
        buyTakesTheFewestThenTheLeast();
        debt();
        swap();
        swapTakesTheFirst();
        due.end();
    }

    private static void feast() {
        MornMarket x = Due.of("m1,00,00;c007;p007;c005;f009;c193");
        due.is("the FRESHEST first", x.feast(0), 9 + 3 + 1 + 2);
        due.is("none is FRESH", x.feast(1), 0);
        due.is("no PERSON", x.feast(2), -1);
        due.is("no PERSON", x.feast(-1), -1);
        x.open(2);
        due.is("all halved", x.feast(0), 4 + 3 + 1);
        x.sleep(1);
        due.is("the next DAY", x.feast(0), 9 + 3 + 1);
        x.sell(3, 1);
        x.fill(1, 50);
        x.sell(3, 1);
        due.is("without what was SOLD", x.feast(0), 6 + 1);
        due.is("with what was bought", x.feast(1), 9);
    }

    private static void keepIs(MornMarket x, int p, int n, int joy, int... days) {
        due.is("keep(" + p + ", " + n + ", -1)", x.keep(p, n, -1), joy);
        for (int k = 0; k < 6; k++) {
            due.is("keep(" + p + ", " + n + ", " + k + ")", x.keep(p, n, k), k < days.length ? days[k] : -9);
        }
    }

    private static void keepOfSix() {
        MornMarket x = Due.of(Due.SIX);
        keepIs(x, 0, 1, 9, 0, 0, -9, -9, -9, 0);
        keepIs(x, 0, 2, 17, 0, 1, -9, -9, -9, 1);
        keepIs(x, 0, 3, 19, 0, 2, -9, -9, -9, 1);
        keepIs(x, 1, 3, 9, -9, -9, 0, 2);
        keepIs(x, 2, 3, 6, -9, -9, -9, -9, 0);
        due.is("nothing is OPENED by it", x.ofPerson(0, 2), 3);
        due.is("it is DAY 0 still", x.many(2), 0);
    }

    private static void keepTakesTheFirstRow() {
        // Which of two like ones waits does not matter, so the later one does.
        keepIs(Due.of("m1,00;f005;f005"), 0, 2, 10, 0, 1);
        keepIs(Due.of("m1,00;f005;f005;f005"), 0, 3, 15, 0, 1, 2);
        keepIs(Due.of("m1,00;c000;c000"), 0, 3, 0, 0, 0);
        // CLEAR ones lose by waiting: 9 + 6 in either order of a frost and a clear one.
        keepIs(Due.of("m1,00;f006;c009"), 0, 2, 15, 1, 0);
        keepIs(Due.of("m1,00;c009;f009;c009;f009;c009;f009"), 0, 3, 9 + 9 + 9 + 4 + 4 + 4, 0, 0, 0, 1, 0, 2);
    }

    private static void keepWhenOneWasOpened() {
        MornMarket x = Due.of("m1,00;c009;f006;c001");
        x.open(2);
        keepIs(x, 0, 1, 4 + 3, 0, 0);
        keepIs(x, 0, 2, 8 + 3, 1, 0);
        keepIs(x, 0, 3, 8 + 6, 1, 2);
        x.sleep(1);
        keepIs(x, 0, 1, 8 + 3, 0, 0);
        keepIs(x, 0, 2, 8 + 6, 0, 1);
        for (int n = 0; n < 11; n++) x.sleep(n == 10 ? 8 : 9);
        due.is("the last DAY", x.many(2), 99);
        keepIs(x, 0, 3, 0, 0, 0);
    }

    private static void refusalsOfKeep() {
        MornMarket x = Due.of(Due.SIX);
        due.is("no PERSON", x.keep(3, 0, 9), -1);
        due.is("no PERSON", x.keep(-1, 1, 0), -1);
        due.is("n 0", x.keep(0, 0, 0), -2);
        due.is("n 4", x.keep(0, 4, 0), -2);
        due.is("n -1", x.keep(0, -1, 0), -2);
        due.is("k -2", x.keep(0, 1, -2), -2);
        due.is("k 6", x.keep(0, 1, 6), -2);
        due.is("k that is not there", Due.of("m1,00;c000").keep(0, 1, 5), -9);
        MornMarket y = Due.of("m1,00,00;c009");
        keepIs(y, 1, 3, 0);
    }

    private static void buyIs(MornMarket x, int p, int v, int pence, int set) {
        due.is("buy(" + p + ", " + v + ", 0)", x.buy(p, v, 0), pence);
        due.is("buy(" + p + ", " + v + ", 1)", x.buy(p, v, 1), set);
    }

    private static void buy() {
        MornMarket x = Due.of(Due.SIX);
        buyIs(x, 0, 0, 0, 0);
        buyIs(x, 0, 9, 0, 0);
        buyIs(x, 0, 10, 8, 4);
        buyIs(x, 0, 12, 12, 16);
        buyIs(x, 0, 13, 20, 20);
        buyIs(x, 0, 14, 20, 20);
        buyIs(x, 0, 15, -9, -9);
        x.fill(0, 19);
        buyIs(x, 0, 13, -9, -9);
        x.fill(0, 20);
        buyIs(x, 0, 13, 20, 20);
        x.open(4);
        buyIs(x, 0, 12, -9, -9);
        buyIs(x, 0, 11, 8, 4);
        x.open(5);
        buyIs(x, 0, 6, 8, 4);
        buyIs(x, 0, 7, -9, -9);
        due.is("no PERSON", x.buy(3, 100, 0), -1);
        due.is("no PERSON", x.buy(-1, 0, 0), -1);
        due.is("v -1", x.buy(0, -1, 0), -2);
        due.is("v 100", x.buy(0, 100, 0), -2);
        due.is("v 99", x.buy(0, 99, 0), -9);
        due.is("what 2", x.buy(0, 0, 2), -2);
        due.is("what -1", x.buy(0, 0, -1), -2);
        due.is("nothing is SOLD by it", x.ofPerson(0, 0), 20);
    }

    private static void buyTakesTheFewestThenTheLeast() {
        // Both 1 alone (dew 6) and 2 with 3 (dews 4, 2: 4 + 1) cost 6: the fewest MORNINGS.
        buyIs(Due.of("m1,99,00;c000;c104;c102;c106"), 0, 5, 6, 8);
        // Two like ones: the least set.
        buyIs(Due.of("m1,99,00,00;c106;c206;c000"), 0, 6, 6, 1);
        // 5 and 1 cost 6 and bring 5; 4 and 2 do as much; 6 alone is missing.
        buyIs(Due.of("m1,99,00;c104;c105;c102;c101"), 0, 5, 5, 2);
        // Those that cost nothing are not bought besides.
        buyIs(Due.of("m1,99,00;c100;c105;c100"), 0, 5, 5, 2);
        // Fewest PENCE go ahead of fewest MORNINGS: 6 alone, or 4 and 1.
        buyIs(Due.of("m1,99,00;c106;c104;c102"), 0, 5, 6, 1);
        buyIs(Due.of("m1,99,00;c109;c104;c104"), 0, 6, 8, 6);
    }

    private static void debtIs(MornMarket x, int p, int v, int joy, int set) {
        due.is("debt(" + p + ", " + v + ", 0)", x.debt(p, v, 0), joy);
        due.is("debt(" + p + ", " + v + ", 1)", x.debt(p, v, 1), set);
    }

    private static void debt() {
        MornMarket x = Due.of("m2,00,00;c009;c005;c005;c004;c101;c000");
        debtIs(x, 0, 0, 9 + 2 + 2 + 2, 0);
        debtIs(x, 0, 8, 9 + 2 + 2, 2);
        debtIs(x, 0, 10, 9 + 2 + 2, 2);
        debtIs(x, 0, 11, 9 + 2, 6);
        debtIs(x, 0, 18, 9 + 2, 6);
        debtIs(x, 0, 20, 9 + 2, 6);
        debtIs(x, 0, 21, 9, 14);
        debtIs(x, 0, 46, 0, 15);
        debtIs(x, 0, 47, -9, -9);
        debtIs(x, 1, 2, 0, 16);
        x.open(1);
        debtIs(x, 0, 8, 4 + 2, 4);
        debtIs(x, 0, 10, 4 + 2, 4);
        debtIs(x, 0, 11, 4, 1);
        debtIs(x, 0, 36, 0, 13);
        debtIs(x, 0, 37, -9, -9);
        // Without 0 and 1, or without 2 alone, FEAST is 11: the fewest MORNINGS, though not the least set.
        debtIs(Due.of("m1,00;c002;c002;c004;c009"), 0, 4, 11, 4);
        // FEAST goes ahead of how few they are: without 0 and 1 it is 4, without 2 alone 3.
        debtIs(Due.of("m1,00;c001;c001;c002;c003"), 0, 2, 4, 3);
        due.is("no PERSON", x.debt(2, 1000, 0), -1);
        due.is("no PERSON", x.debt(-1, 0, 0), -1);
        due.is("v -1", x.debt(0, -1, 0), -2);
        due.is("v 1000", x.debt(0, 1000, 0), -2);
        due.is("v 999", x.debt(0, 999, 0), -9);
        due.is("what 2", x.debt(0, 0, 2), -2);
        due.is("what -1", x.debt(0, 0, -1), -2);
        due.is("nothing is SOLD by it", x.ofPerson(0, 2), 4);
    }

    private static void swapIs(MornMarket x, int more, int lesser, int greater) {
        due.is("swap(0)", x.swap(0), more);
        due.is("swap(1)", x.swap(1), lesser);
        due.is("swap(2)", x.swap(2), greater);
    }

    private static void swap() {
        MornMarket none = new MornMarket();
        due.is("no MARKET", none.swap(0), -3);
        due.is("what 3 without a MARKET", none.swap(3), -2);
        due.is("what -1", Due.of(Due.SIX).swap(-1), -2);
        due.is("what 3", Due.of(Due.SIX).swap(3), -2);
        swapIs(Due.of("m1,00;c009;c008"), -9, -9, -9);
        swapIs(Due.of("m1,00,00;c009;c109"), -9, -9, -9);
        // 9 + 4 and 2 + 1 with 8 and 3 exchanged would be less for the first one.
        swapIs(Due.of("m1,00,00;c009;c008;c103;c102"), -9, -9, -9);
        // 5 is cut to 2, 4 to 2: with 4 for 5 the first one has no less, the other one has 1 more.
        MornMarket x = Due.of("m1,00,00;c009;c005;c104");
        swapIs(x, 1, 1, 2);
        due.is("nothing is exchanged by it", x.ofMorning(1, 1), 0);
        x.open(1);
        swapIs(x, -9, -9, -9);
    }

    private static void swapTakesTheFirst() {
        // 1 and 2 are like ones, 3 and 4, too.
        swapIs(Due.of("m1,00,00,00;c009;c005;c005;c104;c204"), 1, 1, 3);
        // One who OPENED one today halves all: 9 becomes 4, so it goes to the one who did not; 8 halves to 4, too.
        MornMarket x = Due.of("m1,00,00;c009;c000;c108");
        x.open(1);
        swapIs(x, 1, 0, 2);
        x.sleep(1);
        swapIs(x, -9, -9, -9);
        // The least first number goes ahead of the least second one.
        swapIs(Due.of("m1,00,00,00;c104;c009;c204;c005"), 1, 0, 3);
        swapIs(Due.of("m1,00,00,00;c009;c005;c204;c104;c005"), 1, 1, 2);
        // Neither may have less: the lender's FRESHEST one is not lent.
        swapIs(Due.of("m1,00,00;c005;c104"), -9, -9, -9);
        swapIs(Due.of("m1,00,00;c005;c005;c104"), 1, 0, 2);
    }
}
