import java.util.Random;
import java.util.regex.Matcher;
import java.util.regex.Pattern;

/** The ends of a TEXT (Terms, part 1; promise 2): how many of each, each code's range, where it stops being one. */
public final class TextBoundsTest {
    private static final Due due = new Due();
    private static final String GREATEST = "m9,00,09,90,99;c000;f199;p290;c309;f055;p107";
    private static final Pattern[] BY_PEOPLE = new Pattern[4];

    public static void main(String[] args) {
        for (int people = 1; people <= 4; people++) {
            BY_PEOPLE[people - 1] = Pattern.compile(
                "m[1-9](,[0-9][0-9]){" + people + "}(;[cfp][0-" + (people - 1) + "][0-9][0-9]){1,6}", Pattern.DOTALL);
        }
        howManyThereMayBe();
        aTextThatEndsTooSoon();
        aTextThatGoesOnTooLong();
        theFifthPersonAndTheSeventhMorning();
        anOwnerThatThereIsNot();
        eachCodeAtEachPlace();
        textsWithSeveralFaults();
        theFirstFaultIsCountedFromTheTextsBegin();
        aFirstFaultChangesNothing();
        due.end();
    }

    private static void told(String text, int answer) {
        due.is("market of '" + text + "'", Due.told(new MornMarket(), text), answer);
    }

    /** What is due, by patterns: the first place behind which none of them can still be met. */
    private static int answerBy(String text) {
        for (int end = 1; end <= text.length(); end++) {
            if (!goesOn(text.substring(0, end))) return -100 - (end - 1);
        }
        for (Pattern pattern : BY_PEOPLE) {
            if (pattern.matcher(text).matches()) return (int) text.chars().filter(code -> code == ';').count();
        }
        return -100 - text.length();
    }

    private static boolean goesOn(String begin) {
        for (Pattern pattern : BY_PEOPLE) {
            Matcher matcher = pattern.matcher(begin);
            if (matcher.matches() || matcher.hitEnd()) return true;
        }
        return false;
    }

    private static void howManyThereMayBe() {
        String people = "";
        for (int p = 1; p <= 4; p++) {
            people += ",50";
            String mornings = "";
            for (int m = 1; m <= 6; m++) {
                mornings += ";c0" + m + m;
                MornMarket x = new MornMarket();
                due.is(p + " PEOPLE, " + m + " MORNINGS", Due.told(x, "m5" + people + mornings), m);
                due.is("PEOPLE", x.many(1), p);
                due.is("MORNINGS", x.many(0), m);
                due.is("the last PERSON", x.ofPerson(p - 1, 0), 50);
                due.is("no PERSON behind the last", x.ofPerson(p, 0), -1);
                due.is("the last MORNING", x.ofMorning(m - 1, 3), m);
                due.is("no MORNING behind the last", x.ofMorning(m, 0), -1);
            }
        }
        told("m5;c000", -102);
        told("m5,50", -105);
    }

    private static void aTextThatEndsTooSoon() {
        for (int end = 0; end < GREATEST.length(); end++) {
            // Behind each MORNING it may end; there are 15 codes ahead of the first one's letter.
            boolean whole = end >= 19 && (end - 19) % 5 == 0;
            told(GREATEST.substring(0, end), whole ? (end - 14) / 5 : -100 - end);
        }
        told(GREATEST, 6);
    }

    private static void aTextThatGoesOnTooLong() {
        told(GREATEST + ";", -144);
        told(GREATEST + ";c000", -144);
        told(GREATEST + "0", -144);
        told(GREATEST + ",", -144);
        told(GREATEST + (char) 0, -144);
        told("m5,50;c000m", -110);
        told("m5,50;c0000", -110);
        told("m5,50;c000,50", -110);
    }

    private static void theFifthPersonAndTheSeventhMorning() {
        told("m5,50,50,50,50,50;c000", -114);
        told("m5,50,50,50,50,", -114);
        told("m5,50,50,50,50;c000", 1);
        told("m5,50;c000;c000;c000;c000;c000;c000;c000", -135);
        told("m5,50;c000;c000;c000;c000;c000;c000;", -135);
        told("m5,50;c000;c000;c000;c000;c000;c000", 6);
        told("m5,50,50,50,50;c000;c000;c000;c000;c000;c000;c000", -144);
    }

    private static void anOwnerThatThereIsNot() {
        String people = "";
        for (int p = 1; p <= 4; p++) {
            people += ",50";
            for (int owner = 0; owner <= 9; owner++) {
                String head = "m5" + people + ";c";
                told(head + owner + "00", owner < p ? 1 : -100 - head.length());
                told(head + "000;p" + owner + "99", owner < p ? 2 : -100 - head.length() - 5);
            }
        }
    }

    private static void codesAt(String text, int place) {
        for (int code = 0; code <= 127; code++) {
            String other = text.substring(0, place) + (char) code + text.substring(place + 1);
            told(other, answerBy(other));
        }
    }

    private static void eachCodeAtEachPlace() {
        for (int place = 0; place < GREATEST.length(); place++) codesAt(GREATEST, place);
        String least = "m1,00;p000";
        for (int place = 0; place < least.length(); place++) codesAt(least, place);
        for (int place = 0; place < least.length(); place++) {
            int code = least.charAt(place);
            for (int other : new int[] {-1, -code, code + 256, code + 65536, code - 256, Due.LEAST, Due.MOST}) {
                MornMarket x = new MornMarket();
                Due.row(x, 0, Due.INTS, least.chars().toArray());
                x.put(0, place, other);
                due.is("code " + other + " at " + place, x.market(0, Due.INTS, 0, 10), -100 - place);
            }
        }
    }

    private static void textsWithSeveralFaults() {
        Random random = new Random(1);
        String codes = "m0159,;cfp/:x";
        for (int k = 0; k < 3000; k++) {
            StringBuilder text = new StringBuilder(GREATEST);
            for (int change = 0; change < 1 + k % 4; change++) {
                int place = random.nextInt(text.length());
                char code = codes.charAt(random.nextInt(codes.length()));
                switch (random.nextInt(3)) {
                    case 0: text.setCharAt(place, code); break;
                    case 1: text.insert(place, code); break;
                    default: text.delete(place, Math.min(text.length(), place + 1 + random.nextInt(4)));
                }
            }
            told(text.toString(), answerBy(text.toString()));
        }
        told("x0", -100);
        told("m0;x", -101);
    }

    private static void theFirstFaultIsCountedFromTheTextsBegin() {
        MornMarket x = new MornMarket();
        Due.row(x, 3, Due.SHORTS, "mmm5,50;c0x0".chars().toArray());
        due.is("place 8 of a TEXT that begins at cell 2", x.market(3, Due.SHORTS, 2, 10), -108);
        due.is("it ends too soon, though the row goes on", x.market(3, Due.SHORTS, 2, 5), -105);
        due.is("the first of a TEXT that begins at cell 1", x.market(3, Due.SHORTS, 1, 10), -101);
        due.is("a TEXT of no codes", x.market(3, Due.SHORTS, 2, 0), -100);
        x.put(3, 10, '0');
        due.is("a TEXT that ends with the row", x.market(3, Due.SHORTS, 2, 10), 1);
    }

    private static void aFirstFaultChangesNothing() {
        Twins lived = new Twins(due, Due::lived);
        String[] texts = {"", "x", "m7", "m7;c000", "m7,11,12,13,14", "m7,11;p", "m7,11;p199", "m7,11;p099;",
            "m7,11;p099;p099;p099;p099;p099;p099;", "m7,11;p0999"};
        for (String text : texts) {
            lived.with(x -> {
                Due.row(x, 3, Due.INTS, text.chars().toArray());
                return 0;
            }).same("FIRST FAULT of '" + text + "'", x -> x.market(3, Due.INTS, 0, text.length()), answerBy(text), 0);
        }
    }
}
