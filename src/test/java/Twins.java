import java.util.ArrayList;
import java.util.List;

/**
 * Two objects made alike, of which one gets a call: it answers as told, and behind it all that other calls show is as on
 * the other one. As nothing is promised behind an object's 512th call, the questions are asked of several pairs.
 */
final class Twins {
    interface Call {
        long on(MornMarket x);
    }

    interface Made {
        MornMarket anew();
    }

    private static final int ASKED_OF_ONE = 220;
    private static final List<Call> QUESTIONS = questions();

    private final Due due;
    private final Made made;

    Twins(Due due, Made made) {
        this.due = due;
        this.made = made;
    }

    Twins with(Call more) {
        return new Twins(due, () -> {
            MornMarket x = made.anew();
            more.on(x);
            return x;
        });
    }

    /** A call that names no FAULTS: fault() stays, too. */
    void same(String told, Call call, long answer) {
        compare(told, call, answer, false, 0);
    }

    /** A call that names FAULTS: fault() tells the one that it came to; 0: none, or it was refused. */
    void same(String told, Call call, long answer, int fault) {
        compare(told, call, answer, true, fault);
    }

    private void compare(String told, Call call, long answer, boolean namesFaults, int fault) {
        for (int from = 0; from < QUESTIONS.size(); from += ASKED_OF_ONE) {
            MornMarket one = made.anew();
            MornMarket other = made.anew();
            // Two unlike FAULTS ahead of it in turn, so that one of them is not the one that is due.
            boolean size = from % (2 * ASKED_OF_ONE) == 0;
            int ahead = faultAhead(one, size);
            faultAhead(other, size);
            due.is(told, call.on(one), answer);
            due.is(told + ": fault()", one.fault(), namesFaults ? fault : ahead);
            for (int q = from; q < Math.min(QUESTIONS.size(), from + ASKED_OF_ONE); q++) {
                Call question = QUESTIONS.get(q);
                due.is(told + ": question " + q + " behind it", question.on(one), question.on(other));
            }
        }
    }

    private static int faultAhead(MornMarket x, boolean size) {
        if (size) x.sheet(0, 0, -1);
        else x.put(3, 60, 0);
        return x.fault();
    }

    private static List<Call> questions() {
        List<Call> all = new ArrayList<>();
        for (int k = 0; k < 5; k++) {
            int what = k;
            all.add(x -> x.many(what));
        }
        for (int k = 0; k < 6; k++) askMorning(all, k);
        for (int k = 0; k < 4; k++) askPerson(all, k);
        for (int k = 0; k < 3; k++) {
            int what = k;
            all.add(x -> x.swap(what));
        }
        all.add(MornMarket::trace);
        for (int k = 0; k < 4; k++) askSheet(all, k);
        return all;
    }

    private static void askMorning(List<Call> all, int m) {
        for (int k = 0; k < 5; k++) {
            int what = k;
            all.add(x -> x.ofMorning(m, what));
        }
        all.add(x -> x.price(m));
        all.add(x -> x.fresh(m, 5));
        all.add(x -> x.dews(m));
        all.add(x -> x.kinds(m));
        all.add(x -> x.takens(m));
    }

    private static void askPerson(List<Call> all, int p) {
        for (int k = 0; k < 4; k++) {
            int what = k;
            all.add(x -> x.ofPerson(p, what));
        }
        all.add(x -> x.feast(p));
    }

    private static void askSheet(List<Call> all, int k) {
        for (int l = 0; l < 3; l++) {
            int lane = l;
            all.add(x -> x.cell(k, 0, lane));
            all.add(MornMarket::fault);
            for (int c = 1; c <= 60; c++) {
                int i = c;
                all.add(x -> x.cell(k, i, lane));
            }
        }
    }
}
