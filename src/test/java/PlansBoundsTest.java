/** The ends of promises 13 to 17: ranges, refusals, ties, the least and the most there can be, and that nothing is changed. */
public final class PlansBoundsTest {
    private static final Due due = new Due();
    private static final Twins lived = new Twins(due, Due::lived);
    private static final Twins onlySheets = new Twins(due, Due::onlySheets);

    public static void main(String[] args) {
        feast();
        feastIsCut();
        keepRefused();
        keepIsNone();
        keepOfAllRows();
        keepTies();
        keepFromTheLastDayOn();
        buyRefused();
        buyOfFreshness();
        buyByThePurse();
        buyTies();
        debtRefused();
        debtOfPence();
        debtTies();
        swapRefused();
        swapIsNone();
        swapTies();
        due.end();
    }

    private static void feast() {
        for (int p : Due.beyond(0, 2)) lived.same("feast of PERSON " + p, x -> x.feast(p), -1);
        lived.same("the first PERSON", x -> x.feast(0), 7);
        lived.same("half, as they OPENED one today", x -> x.feast(1), 3);
        lived.same("the last PERSON", x -> x.feast(2), 7);
        lived.with(x -> x.open(0)).same("of no MORNINGS that are not OPENED", x -> x.feast(1), 0);
        lived.with(x -> x.sleep(0)).same("0 DAYS later", x -> x.feast(1), 3);
        lived.with(x -> x.sleep(1)).same("a DAY later", x -> x.feast(1), 6);
        due.is("of one who has no MORNINGS", Due.of("m1,00,00;c009").feast(1), 0);
    }

    private static void feastIsCut() {
        due.is("the FRESHEST whole, each half cut alone", Due.of("m1,00;c003;c005;c003;c003;c001").feast(0), 5 + 1 + 1 + 1);
        due.is("the FRESHEST is the last", Due.of("m1,00;c001;c009").feast(0), 9);
        due.is("the FRESHEST is the first", Due.of("m1,00;c009;c001").feast(0), 9);
        due.is("the most", Due.of("m1,00;c009;c009;c009;f009;f009;f009").feast(0), 29);
        due.is("the least", Due.of("m1,00;c000;c019").feast(0), 0);
        MornMarket x = Due.of("m1,00;c000;c009;c009;c001");
        x.open(0);
        due.is("one without JOY OPENED today", x.feast(0), 8);
        due.is("JOY ahead of it is not counted", x.ofPerson(0, 1), 0);
        x.open(1);
        due.is("nor where there was some", x.feast(0), 4);
    }

    private static void keepRefused() {
        for (int p : Due.beyond(0, 2)) {
            lived.same("keep of PERSON " + p, x -> x.keep(p, 1, -1), -1);
            lived.same("UNKNOWN ahead of OUTSIDE: n", x -> x.keep(p, 0, 0), -1);
            lived.same("UNKNOWN ahead of OUTSIDE: k", x -> x.keep(p, 1, 6), -1);
        }
        for (int n : Due.beyond(1, 3)) {
            for (int k = -1; k < 6; k++) {
                int asked = k;
                lived.same("keep for " + n + " DAYS", x -> x.keep(0, n, asked), -2);
            }
        }
        for (int k : Due.beyond(-1, 5)) {
            for (int d = 1; d <= 3; d++) {
                int n = d;
                lived.same("keep asked " + k, x -> x.keep(0, n, k), -2);
            }
        }
    }

    private static void keepIs(String told, Twins twins, int p, int n, int joy, int... days) {
        twins.same(told + ", JOY", x -> x.keep(p, n, -1), joy);
        for (int m = 0; m < 6; m++) {
            int k = m;
            twins.same(told + ", MORNING " + k, x -> x.keep(p, n, k), k < days.length ? days[k] : -9);
        }
    }

    private static Twins of(String text) {
        return new Twins(due, () -> Due.of(text));
    }

    private static void keepIsNone() {
        keepIs("all but one are none of theirs", lived, 0, 1, 7, -9, 0);
        keepIs("2 and 3 are OPENED", lived, 1, 3, 6, 1);
        keepIs("bought ones, too", lived, 2, 3, 7, -9, -9, -9, -9, 0, 0);
        keepIs("MORNINGS that are not there", of("m1,00;c009"), 0, 3, 9, 0);
        keepIs("none at all", of("m1,00,00;c009;c009;c009;c009;c009;c009"), 1, 3, 0);
        keepIs("all are OPENED", lived.with(x -> x.open(0)), 1, 3, 0);
    }

    private static void keepOfAllRows() {
        keepIs("today alone", of("m1,00;c009;f019;c009;c029;c009;p009"), 0, 1, 9 + 4 + 4 + 2, 0, 0, 0, 0, 0, 0);
        keepIs("the first row of all", of("m1,00;c008;c006;c006;c006;c006;c002"), 0, 1, 8 + 3 * 4 + 1, 0, 0, 0, 0, 0, 0);
        keepIs("the last row for 3 DAYS", of("m1,00;c029;c029;c029;c029;c029;c029"), 0, 3, 9 + 5 * 4, 2, 2, 2, 2, 2, 2);
        keepIs("the last row for 2 DAYS", of("m1,00;c019;c019;c019;c019;c019;c019"), 0, 2, 9 + 5 * 4, 1, 1, 1, 1, 1, 1);
        keepIs("the last DAY is one too far", of("m1,00;c039;c039"), 0, 3, 0, 0, 0);
        keepIs("a row in the middle", of("m1,00;c029;c009;c019;c029;c009;c019"), 0, 3, 3 * (9 + 4), 2, 0, 1, 2, 0, 1);
    }

    private static void keepTies() {
        keepIs("not at all comes behind all DAYS", of("m1,00;c000;c099"), 0, 3, 0, 0, 0);
        keepIs("of several the first as a row", of("m1,00;f008;f008;f008;f008"), 0, 3, 28, 0, 0, 1, 2);
        keepIs("the later one waits", of("m1,00;f004;f004"), 0, 2, 8, 0, 1);
        keepIs("but for more JOY the earlier one does", of("m1,00;f004;c005"), 0, 2, 9, 1, 0);
        keepIs("waiting that loses nothing is not chosen ahead of today", of("m1,00;f009"), 0, 3, 9, 0);
    }

    private static void keepFromTheLastDayOn() {
        Twins last = lived.with(x -> {
            for (int n = 0; n < 10; n++) x.sleep(9);
            return x.sleep(7);
        });
        last.same("it is DAY 99", x -> x.many(2), 99);
        keepIs("DAYS behind 99", last, 2, 3, 0, -9, -9, -9, -9, 0, 0);
        Twins opened = of("m1,00;c009;f009;c000").with(x -> x.open(2));
        keepIs("one was OPENED today", opened, 0, 1, 4 + 4, 0, 0);
        keepIs("none was OPENED on the next DAY", opened, 0, 2, 9 + 4, 0, 1);
        keepIs("nor on the one behind it", opened, 0, 3, 8 + 9, 1, 2);
        keepIs("a DAY later none was OPENED", opened.with(x -> x.sleep(1)), 0, 1, 9 + 4, 0, 0);
    }

    private static void buyRefused() {
        for (int p : Due.beyond(0, 2)) {
            lived.same("buy of PERSON " + p, x -> x.buy(p, 0, 0), -1);
            lived.same("UNKNOWN ahead of OUTSIDE: v", x -> x.buy(p, 100, 0), -1);
            lived.same("UNKNOWN ahead of OUTSIDE: what", x -> x.buy(p, 0, 2), -1);
        }
        for (int v : Due.beyond(0, 99)) {
            lived.same("buy for " + v, x -> x.buy(0, v, 0), -2);
            lived.same("buy for " + v, x -> x.buy(0, v, 1), -2);
        }
        for (int what : Due.beyond(0, 1)) lived.same("buy asked " + what, x -> x.buy(0, 0, what), -2);
        lived.same("OUTSIDE ahead of NONE", x -> x.buy(0, 99, 2), -2);
    }

    private static void buyIs(String told, Twins twins, int p, int v, int pence, int set) {
        twins.same(told + ", PENCE", x -> x.buy(p, v, 0), pence);
        twins.same(told + ", the set", x -> x.buy(p, v, 1), set);
    }

    private static void buyOfFreshness() {
        buyIs("for 0", lived, 0, 0, 0, 0);
        buyIs("for what they have", lived, 0, 7, 0, 0);
        buyIs("for one more", lived, 0, 8, 4, 32);
        buyIs("OPENED ones can't be bought: the most", lived, 0, 14, 30, 49);
        buyIs("for more than the most", lived, 0, 15, -9, -9);
        buyIs("for 99", lived, 0, 99, -9, -9);
        buyIs("none of theirs is bought", of("m1,99;c009;c009"), 0, 13, 0, 0);
        buyIs("for more than all theirs", of("m1,99;c009;c009"), 0, 14, -9, -9);
        buyIs("for 0 by one without PENCE", of("m1,00,00;c109"), 0, 0, 0, 0);
        buyIs("all six", of("m1,54,00;c109;c109;c109;c109;c109;c109"), 0, 29, 54, 63);
        buyIs("one who OPENED one today has half", of("m1,99,00;c000;c109").with(x -> x.open(0)), 0, 4, 9, 2);
        buyIs("and no more", of("m1,99,00;c000;c109").with(x -> x.open(0)), 0, 5, -9, -9);
    }

    private static void buyByThePurse() {
        buyIs("just enough", lived.with(x -> x.fill(0, 4)), 0, 8, 4, 32);
        buyIs("a penny too few", lived.with(x -> x.fill(0, 3)), 0, 8, -9, -9);
        buyIs("all together are just enough", of("m1,53,00;c109;c109;c109;c109;c109;c108"), 0, 29, 53, 63);
        buyIs("all together are a penny too many", of("m1,52,00;c109;c109;c109;c109;c109;c108"), 0, 29, -9, -9);
        buyIs("what costs nothing, without PENCE", of("m9,00,00;c101;c100;p101"), 0, 0, 0, 0);
        Twins rich = of("m9,99,99;c009;c109;c109").with(x -> x.sell(0, 1));
        rich.same("a PURSE above 99", x -> x.ofPerson(0, 0), 180);
        buyIs("by a PURSE above 99", rich, 0, 13, 162, 3);
        buyIs("a penny too few above 99", of("m9,98,99;c009;c109;c109").with(x -> x.sell(0, 1)), 0, 17, -9, -9);
    }

    private static void buyTies() {
        buyIs("of the fewest PENCE, though of more MORNINGS", of("m1,99,00;c109;c104;c104"), 0, 6, 8, 6);
        buyIs("of the fewest MORNINGS, though not the least set", of("m1,99,00;c104;c102;c106"), 0, 5, 6, 4);
        buyIs("of several the least", of("m1,99,00;c105;c105;c105"), 0, 7, 10, 3);
        buyIs("what costs nothing is not bought besides", of("m1,99,00;c100;c105;c192"), 0, 5, 5, 2);
        buyIs("more FEAST for as many PENCE is not better", of("m1,99,00;c103;c102;c105"), 0, 4, 5, 4);
    }

    private static void debtRefused() {
        for (int p : Due.beyond(0, 2)) {
            lived.same("debt of PERSON " + p, x -> x.debt(p, 0, 0), -1);
            lived.same("UNKNOWN ahead of OUTSIDE: v", x -> x.debt(p, 1000, 0), -1);
            lived.same("UNKNOWN ahead of OUTSIDE: what", x -> x.debt(p, 0, 2), -1);
        }
        for (int v : Due.beyond(0, 999)) {
            lived.same("debt of " + v, x -> x.debt(0, v, 0), -2);
            lived.same("debt of " + v, x -> x.debt(0, v, 1), -2);
        }
        for (int what : Due.beyond(0, 1)) lived.same("debt asked " + what, x -> x.debt(0, 0, what), -2);
        lived.same("OUTSIDE ahead of NONE", x -> x.debt(0, 999, 2), -2);
    }

    private static void debtIs(String told, Twins twins, int p, int v, int joy, int set) {
        twins.same(told + ", FEAST of the rest", x -> x.debt(p, v, 0), joy);
        twins.same(told + ", the set", x -> x.debt(p, v, 1), set);
    }

    private static void debtOfPence() {
        debtIs("of nothing", lived, 2, 0, 7, 0);
        debtIs("of a penny", lived, 2, 1, 6, 32);
        debtIs("of all that one costs", lived, 2, 4, 6, 32);
        debtIs("of a penny more", lived, 2, 5, 2, 16);
        debtIs("of all that they cost", lived, 2, 16, 0, 48);
        debtIs("of a penny more than all", lived, 2, 17, -9, -9);
        debtIs("of 999", lived, 2, 999, -9, -9);
        debtIs("OPENED ones are not sold", lived, 1, 15, -9, -9);
        debtIs("all that is not OPENED", lived, 1, 14, 0, 1);
        debtIs("of nothing by one who has none", of("m1,00,00;c009"), 1, 0, 0, 0);
        debtIs("of a penny by one who has none", of("m1,00,00;c009"), 1, 1, -9, -9);
        Twins dear = of("m9,00;c009;c009;c009;c009;c009;c009");
        debtIs("the most that there can be", dear, 0, 486, 0, 63);
        debtIs("a penny more than that", dear, 0, 487, -9, -9);
        debtIs("nothing that costs nothing is sold for nothing", of("m1,00;c000;c009"), 0, 0, 9, 0);
        debtIs("the PURSE is none of it", of("m1,99;c009"), 0, 10, -9, -9);
    }

    private static void debtTies() {
        debtIs("FEAST goes ahead of how few they are", of("m1,00;c001;c001;c002;c003"), 0, 2, 4, 3);
        debtIs("the fewest, though not the least set", of("m1,00;c002;c002;c004;c009"), 0, 4, 11, 4);
        debtIs("of several the least", of("m1,00;c005;c005;c005"), 0, 5, 7, 1);
        debtIs("of several pairs the least", of("m1,00;c005;c005;c005"), 0, 6, 5, 3);
        debtIs("what costs nothing is not sold besides", of("m1,00;c000;c005;c000"), 0, 5, 0, 2);
        debtIs("fewer PENCE are no better", of("m1,00;c005;c004;c009"), 0, 4, 11, 1);
        debtIs("halves, if they OPENED one today", of("m1,00;c000;c009;c008").with(x -> x.open(0)), 0, 8, 4, 2);
    }

    private static void swapRefused() {
        for (int what : Due.beyond(0, 2)) {
            lived.same("swap asked " + what, x -> x.swap(what), -2);
            onlySheets.same("OUTSIDE ahead of STATE", x -> x.swap(what), -2);
        }
        for (int k = 0; k < 3; k++) {
            int what = k;
            onlySheets.same("swap without a MARKET", x -> x.swap(what), -3);
        }
    }

    private static void swapIs(String told, Twins twins, int more, int lesser, int greater) {
        twins.same(told + ", how much more", x -> x.swap(0), more);
        twins.same(told + ", the lesser", x -> x.swap(1), lesser);
        twins.same(told + ", the greater", x -> x.swap(2), greater);
    }

    private static void swapIsNone() {
        swapIs("one MORNING", of("m1,00,00;c009"), -9, -9, -9);
        swapIs("one OWNER", of("m1,00,00;c009;c005;c004"), -9, -9, -9);
        swapIs("like ones", of("m1,00,00;c009;c005;c105"), -9, -9, -9);
        swapIs("1 more", of("m1,00,00;c009;c005;c104"), 1, 1, 2);
        swapIs("the one who borrows has less", of("m1,00,00;c009;c004;c105"), -9, -9, -9);
        swapIs("the one who lends has less", of("m1,00,00;c009;c006;c105"), -9, -9, -9);
        swapIs("the lesser one is OPENED", of("m1,00,00;c009;c005;c104").with(x -> x.open(1)), -9, -9, -9);
        swapIs("the greater one is OPENED", of("m1,00,00;c009;c005;c104").with(x -> x.open(2)), -9, -9, -9);
        Twins opened = of("m1,00,00;c000;c005;c104").with(x -> x.open(0));
        swapIs("one who OPENED one today lends the FRESHEST", opened, 1, 1, 2);
        swapIs("a DAY later not", opened.with(x -> x.sleep(1)), -9, -9, -9);
        swapIs("both OPENED one today", of("m1,00,00;c000;c100;c005;c104").with(x -> x.open(0) + x.open(1)), -9, -9, -9);
        swapIs("PURSES are none of it", of("m9,00,00;c009;c005;c104"), 1, 1, 2);
    }

    private static void swapTies() {
        swapIs("the least first number", of("m1,00,00,00;c104;c009;c204;c005"), 1, 0, 3);
        swapIs("then the least second number", of("m1,00,00,00;c009;c005;c204;c104"), 1, 1, 2);
        swapIs("the first is the lesser one", of("m1,00,00;c104;c009;c005"), 1, 0, 2);
        swapIs("the last two", of("m1,00,00;c009;c000;c000;c000;c005;c104"), 1, 4, 5);
    }
}
