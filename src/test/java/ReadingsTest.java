/** Promises 18 to 23: readings, what they leave open, odds. */
public final class ReadingsTest {
    private static final Due due = new Due();

    public static void main(String[] args) {
        reading();
        back();
        dews();
        kinds();
        takens();
        readingsOfAnother();
        odds();
        due.end();
    }

    private static void reading() {
        MornMarket x = Due.of(Due.SIX);
        due.is("no MORNING", x.reading(6, 100, 10), -1);
        due.is("no MORNING", x.reading(-1, 0, 0), -1);
        due.is("t 100", x.reading(0, 100, 0), -2);
        due.is("t -1", x.reading(0, -1, 0), -2);
        due.is("v 10", x.reading(0, 0, 10), -2);
        due.is("v -1", x.reading(0, 0, -1), -2);
        due.is("no READINGS", x.many(4), 0);
        for (int k = 0; k < 8; k++) {
            due.is("READING " + k, x.reading(k % 6, 99, 0), k);
            due.is("READINGS behind " + k, x.many(4), k + 1);
        }
        due.is("FULL", x.reading(0, 99, 0), -4);
        due.is("UNKNOWN ahead of FULL", x.reading(6, 99, 0), -1);
        due.is("OUTSIDE ahead of FULL", x.reading(0, 100, 0), -2);
        due.is("READINGS", x.many(4), 8);
    }

    private static void back() {
        MornMarket x = Due.of("m1,00;c005");
        due.is("back 0 of none", x.back(0), 0);
        due.is("back 1 of none", x.back(1), -2);
        x.reading(0, 0, 5);
        x.reading(0, 1, 9);
        x.reading(0, 2, 9);
        due.is("back -1", x.back(-1), -2);
        due.is("back 4", x.back(4), -2);
        due.is("back 0", x.back(0), 3);
        due.is("DEWS by false ones", x.dews(0), 0);
        due.is("back 2", x.back(2), 1);
        due.is("DEWS by the first", x.dews(0), 32);
        due.is("the number is free again", x.reading(0, 3, 2), 1);
        due.is("back all", x.back(2), 0);
        due.is("READINGS", x.many(4), 0);
        due.is("DEWS by none", x.dews(0), 1023);
    }

    private static void dews() {
        MornMarket x = Due.of("m1,00;c023;f023;p023");
        due.is("DEWS without READINGS", x.dews(1), 1023);
        x.reading(0, 4, 0);
        due.is("DEWS of a spoilt CLEAR one", x.dews(0), 7);
        x.back(1);
        x.reading(0, 1, 0);
        due.is("DEWS ahead of it", x.dews(0), 1023);
        x.reading(0, 4, 1);
        due.is("DEWS of a CLEAR one", x.dews(0), 1 << 3);
        x.reading(0, 4, 2);
        due.is("DEWS by two that can't be", x.dews(0), 0);
        x.back(3);
        x.reading(1, 8, 5);
        due.is("DEWS of a FROST", x.dews(1), 1 << 7);
        x.back(1);
        x.reading(2, 3, 3);
        due.is("DEWS of a PAINTED one", x.dews(2), 1 << 7 | 1 << 8);
        x.reading(2, 4, 3);
        due.is("DEWS by both", x.dews(2), 1 << 8);
        x.back(2);
        x.reading(0, 2, 9);
        due.is("DEW 9", x.dews(0), 1 << 9);
        due.is("no MORNING", x.dews(3), -1);
        due.is("no MORNING", x.dews(-1), -1);
        due.is("DEW is as it was", x.ofMorning(0, 3), 3);
    }

    private static void kinds() {
        MornMarket x = Due.of("m1,00;c007;f007;p007");
        due.is("KINDS without READINGS", x.kinds(0), 7);
        x.reading(0, 0, 7);
        due.is("CLEAR or FROST", x.kinds(0), 3);
        x.reading(0, 1, 7);
        due.is("FROST", x.kinds(0), 2);
        x.back(1);
        x.reading(0, 1, 6);
        due.is("CLEAR", x.kinds(0), 1);
        x.back(2);
        x.reading(2, 0, 3);
        due.is("PAINTED", x.kinds(2), 4);
        x.back(1);
        x.reading(1, 8, 0);
        due.is("CLEAR or PAINTED", x.kinds(1), 5);
        due.is("no MORNING", x.kinds(3), -1);
        due.is("no MORNING", x.kinds(-1), -1);
        due.is("kind is as it was", x.ofMorning(1, 0), 1);
    }

    private static void takens() {
        MornMarket x = Due.of("m1,00;c005;f015;p095");
        due.is("TAKENS without READINGS", x.takens(0), 1023);
        x.reading(0, 3, 0);
        due.is("not yet TAKEN", x.takens(0), 1023 & ~15);
        x.back(1);
        x.reading(0, 6, 0);
        due.is("not yet TAKEN, or spoilt", x.takens(0), 1 | 2 | 1 << 7 | 1 << 8 | 1 << 9);
        x.back(1);
        x.reading(0, 6, 4);
        due.is("TAKEN on DAY 5", x.takens(0), 1 << 5);
        x.back(1);
        x.reading(1, 6, 4);
        due.is("TAKENS of a FROST", x.takens(1), 1 << 1 | 1 << 2 | 1 << 3);
        x.back(1);
        x.reading(2, 10, 1);
        due.is("TAKENS of a PAINTED one", x.takens(2), 1 << 7 | 1 << 8);
        due.is("no MORNING", x.takens(3), -1);
        due.is("no MORNING", x.takens(-1), -1);
        due.is("TAKEN as it was", x.ofMorning(2, 2), 9);
    }

    private static void readingsOfAnother() {
        MornMarket x = Due.of("m1,00;c005;c005");
        x.reading(1, 0, 5);
        due.is("a true one of another", x.dews(0), 1023);
        x.reading(1, 1, 5);
        due.is("DEWS by a false one of another", x.dews(0), 0);
        due.is("KINDS by a false one of another", x.kinds(0), 0);
        due.is("TAKENS by a false one of another", x.takens(0), 0);
        due.is("another kind makes both so", x.kinds(1), 2);
        due.is("another DAY doesn't", x.takens(1), 0);
        x.open(1);
        x.sleep(9);
        due.is("OPENED or not, whatever DAY it is", x.kinds(1), 2);
    }

    private static void oddsAre(MornMarket x, int p, int v, int upper, int lower) {
        due.is("odds(" + p + ", " + v + ", 0)", x.odds(p, v, 0), upper);
        due.is("odds(" + p + ", " + v + ", 1)", x.odds(p, v, 1), lower);
    }

    private static void odds() {
        // FEASTS of the eight sets of 9, 5, 4: 0, 9, 5, 4, 11, 11, 7, 13.
        MornMarket x = Due.of("m1,99,00,00;c009;c005;c004;c100");
        oddsAre(x, 0, 0, 1, 1);
        oddsAre(x, 0, 1, 7, 8);
        oddsAre(x, 0, 4, 7, 8);
        oddsAre(x, 0, 5, 3, 4);
        oddsAre(x, 0, 6, 5, 8);
        oddsAre(x, 0, 8, 1, 2);
        oddsAre(x, 0, 10, 3, 8);
        oddsAre(x, 0, 12, 1, 8);
        oddsAre(x, 0, 14, 0, 1);
        oddsAre(x, 0, 99, 0, 1);
        oddsAre(x, 1, 0, 1, 1);
        oddsAre(x, 1, 1, 0, 1);
        oddsAre(x, 2, 0, 1, 1);
        oddsAre(x, 2, 1, 0, 1);
        x.open(0);
        oddsAre(x, 0, 2, 3, 4);
        oddsAre(x, 0, 4, 1, 4);
        oddsAre(x, 0, 5, 0, 1);
        oddsAre(Due.of("m1,00;c009;c009;c009;c009;c009;c009"), 0, 9, 63, 64);
        due.is("no PERSON", x.odds(3, 100, 0), Due.LOST);
        due.is("no PERSON", x.odds(-1, 0, 0), Due.LOST);
        due.is("v 100", x.odds(0, 100, 0), Due.LOST);
        due.is("v -1", x.odds(0, -1, 0), Due.LOST);
        due.is("which 2", x.odds(0, 0, 2), Due.LOST);
        due.is("which -1", x.odds(0, 0, -1), Due.LOST);
    }
}
