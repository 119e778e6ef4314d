import java.lang.reflect.Array;
import java.util.ArrayList;
import java.util.List;
import java.util.regex.Matcher;
import java.util.regex.Pattern;

/**
 * The document's part 5, and the taking of a TEXT, told once more by the Java machine itself: SHEETS are its own rows, bodies
 * its own methods, FAULTS what it throws.
 */
final class Machine {
    private static final int UNKNOWN = -1, OUTSIDE = -2;
    private static final long LOST = Long.MIN_VALUE;

    interface Act {
        long does();
    }

    interface Crowing {
        Machine machine();

        int number();

        default int crow() {
            machine().begins(4);
            return number();
        }
    }

    static class Clear implements Crowing {
        private final Machine machine;
        private final int number;
        private final int dew;

        Clear(Machine machine, int number, int dew) {
            this.machine = machine;
            this.number = number;
            this.dew = dew;
        }

        @Override public Machine machine() {
            return machine;
        }

        @Override public int number() {
            return number;
        }

        int tell() {
            return clearTells();
        }

        final int clearTells() {
            machine.begins(1);
            return dew;
        }
    }

    static class Frost extends Clear {
        Frost(Machine machine, int number, int dew) {
            super(machine, number, dew);
        }

        @Override int tell() {
            machine().begins(2);
            return super.tell() + 100;
        }
    }

    static final class Painted extends Frost {
        Painted(Machine machine, int number, int dew) {
            super(machine, number, dew);
        }

        @Override int tell() {
            machine().begins(3);
            return super.tell() + clearTells();
        }

        @Override public int crow() {
            machine().begins(5);
            return 70;
        }
    }

    int fault;
    int trace;
    private final Object[] rows = new Object[4];
    private final List<Clear> mornings = new ArrayList<>();

    private void begins(int body) {
        trace = trace * 31 + body;
    }

    private static boolean isSheet(int k) {
        return k >= 0 && k < 4;
    }

    private static boolean isLane(int lane) {
        return lane >= 0 && lane <= 2;
    }

    private boolean isMorning(int m) {
        return m >= 0 && m < mornings.size();
    }

    private long refused(long answer) {
        fault = 0;
        return answer;
    }

    /** What the machine throws, as the document numbers it. */
    private long run(Act act) {
        fault = 0;
        try {
            return act.does();
        } catch (NullPointerException thrown) {
            fault = 1;
        } catch (ClassCastException | ArrayStoreException thrown) {
            fault = 2;
        } catch (IndexOutOfBoundsException thrown) {
            fault = 3;
        } catch (NegativeArraySizeException thrown) {
            fault = 4;
        }
        return -10 - fault;
    }

    long sheet(int k, int lane, int n) {
        if (!isSheet(k)) return refused(UNKNOWN);
        if (!isLane(lane) || n > 60) return refused(OUTSIDE);
        return run(() -> {
            rows[k] = lane == 0 ? new byte[n] : lane == 1 ? new short[n] : new int[n];
            return 1;
        });
    }

    long lose(int k) {
        if (!isSheet(k)) return UNKNOWN;
        boolean had = rows[k] != null;
        rows[k] = null;
        return had ? 1 : 0;
    }

    long put(int k, int i, int v) {
        if (!isSheet(k)) return refused(UNKNOWN);
        return run(() -> {
            if (rows[k] instanceof byte[] bytes) {
                bytes[i] = (byte) v;
            } else if (rows[k] instanceof short[] shorts) {
                shorts[i] = (short) v;
            } else {
                ((int[]) rows[k])[i] = v;
            }
            return 1;
        });
    }

    private Object as(int lane, Object row) {
        return lane == 0 ? (byte[]) row : lane == 1 ? (short[]) row : (int[]) row;
    }

    long cell(int k, int i, int lane) {
        if (!isSheet(k) || !isLane(lane)) return refused(LOST);
        long answer = run(() -> Array.getLong(as(lane, rows[k]), i));
        return fault == 0 ? answer : LOST;
    }

    long copy(int k, int i, int other, int j, int n) {
        if (!isSheet(k) || !isSheet(other)) return refused(UNKNOWN);
        return run(() -> {
            System.arraycopy(rows[k], i, rows[other], j, n);
            return n;
        });
    }

    long market(int sheet, int lane, int i, int n) {
        if (!isSheet(sheet)) return refused(UNKNOWN);
        if (!isLane(lane)) return refused(OUTSIDE);
        return run(() -> {
            Object row = as(lane, rows[sheet]);
            int length = Array.getLength(row);
            // A length of many millions would be made in vain; one beyond the row's is as good.
            Object codes = Array.newInstance(row.getClass().getComponentType(), Math.min(n, length + 1));
            System.arraycopy(row, i, codes, 0, Math.min(n, length + 1));
            StringBuilder text = new StringBuilder();
            for (int k = 0; k < n; k++) {
                int code = Array.getInt(codes, k);
                text.append(code >= 0 && code < 128 ? (char) code : '?');
            }
            return taken(text.toString());
        });
    }

    private long taken(String text) {
        if (!isText(text)) {
            int place = 0;
            while (place < text.length() && beginsText(text.substring(0, place + 1))) place++;
            return -100 - place;
        }
        mornings.clear();
        for (int at = text.indexOf(';'); at >= 0; at = text.indexOf(';', at + 1)) {
            int number = mornings.size();
            int dew = text.charAt(at + 4) - '0';
            char kind = text.charAt(at + 1);
            mornings.add(kind == 'c' ? new Clear(this, number, dew) : kind == 'f' ? new Frost(this, number, dew) : new Painted(this, number, dew));
        }
        return mornings.size();
    }

    private static Matcher matcher(String text, int people) {
        return Pattern.compile("m[1-9](,[0-9]{2}){" + people + "}(;[cfp][0-" + (people - 1) + "][0-9]{2}){1,6}").matcher(text);
    }

    private static boolean isText(String text) {
        boolean is = false;
        for (int people = 1; people <= 4; people++) is |= matcher(text, people).matches();
        return is;
    }

    private static boolean beginsText(String text) {
        boolean begins = false;
        for (int people = 1; people <= 4; people++) {
            Matcher matcher = matcher(text, people);
            begins |= matcher.matches() || matcher.hitEnd();
        }
        return begins;
    }

    long tell(int m) {
        return isMorning(m) ? mornings.get(m).tell() : UNKNOWN;
    }

    long crow(int m) {
        return isMorning(m) ? mornings.get(m).crow() : UNKNOWN;
    }

    long as(int m, int kind) {
        if (!isMorning(m)) return refused(UNKNOWN);
        if (kind < 0 || kind > 2) return refused(OUTSIDE);
        return run(() -> {
            Clear one = mornings.get(m);
            Clear taken = kind == 0 ? one : kind == 1 ? (Frost) one : (Painted) one;
            return taken == one ? 1 : 0;
        });
    }

    long many() {
        return mornings.size();
    }
}
