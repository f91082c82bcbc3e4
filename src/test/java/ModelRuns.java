import java.math.BigInteger;
import java.util.ArrayList;
import java.util.List;
import java.util.Random;
import java.util.TreeSet;

/** Runs of calls, always the same, whose answers are compared with those of a slow and plain model. */
public final class ModelRuns {
    private static final int RUNS = 600;
    // Each so many runs one is never cleared and gets many cells at once, so that its row becomes full.
    private static final int FULL_EVERY = 6;
    // Behind the last of these nothing is promised.
    private static final int CALLS = 512;

    private static int wrong = 0;

    /** The document's words over texts of bits and lists. */
    private static final class Model {
        private List<Long> row = new ArrayList<>();
        private List<Long> column = null;
        private int form = -1;
        private String bits = "";

        static String binary(long v, int width) {
            StringBuilder text = new StringBuilder();
            for (int i = width - 1; i >= 0; i--) {
                text.append((v >>> i) & 1);
            }
            return text.toString();
        }

        static int digits(long v) {
            BigInteger whole = BigInteger.valueOf(v);
            return (v < 0 ? whole.add(BigInteger.ONE.shiftLeft(64)) : whole).bitLength();
        }

        static String offsets(List<Long> of, long least, int width) {
            StringBuilder text = new StringBuilder();
            for (long v : of) {
                text.append(binary(v - least, width));
            }
            return text.toString();
        }

        static long least(List<Long> of) {
            return of.stream().mapToLong(v -> v).min().orElse(0);
        }

        static long greatest(List<Long> of) {
            return of.stream().mapToLong(v -> v).max().orElse(0);
        }

        String packed() {
            int width = digits(greatest(row) - least(row));
            return binary(least(row), 64) + binary(width, 8) + offsets(row, least(row), width);
        }

        String listed() {
            List<Long> different = new ArrayList<>(new TreeSet<>(row));
            List<Long> places = new ArrayList<>();
            for (long v : row) {
                places.add((long) different.indexOf(v));
            }
            return binary(different.size(), 16) + offsets(different, 0, 64)
                    + offsets(places, 0, digits(different.size() - 1));
        }

        String runs() {
            StringBuilder text = new StringBuilder();
            int runs = 0;
            int length = 0;
            for (int i = 0; i < row.size(); i++) {
                length++;
                if (i + 1 == row.size() || !row.get(i + 1).equals(row.get(i))) {
                    text.append(binary(row.get(i), 64)).append(binary(length, 16));
                    runs++;
                    length = 0;
                }
            }
            return binary(runs, 16) + text;
        }

        String steps() {
            List<Long> steps = new ArrayList<>();
            for (int i = 1; i < row.size(); i++) {
                steps.add(row.get(i) - row.get(i - 1));
            }
            int width = digits(greatest(steps) - least(steps));
            return binary(row.get(0), 64) + binary(least(steps), 64) + binary(width, 8)
                    + offsets(steps, least(steps), width);
        }

        String bitsOf(int wanted) {
            String text = wanted == 0 ? offsets(row, 0, 64) : wanted == 1 ? packed() : wanted == 2 ? listed()
                    : wanted == 3 ? runs() : steps();
            return text + "0".repeat((8 - text.length() % 8) % 8);
        }

        int lightest() {
            int best = 0;
            for (int f = 1; f < 5; f++) {
                if (bitsOf(f).length() < bitsOf(best).length()) {
                    best = f;
                }
            }
            return best;
        }

        long writeIn(int wanted) {
            form = wanted;
            bits = bitsOf(wanted);
            column = new ArrayList<>(row);
            return bits.length() / 8;
        }

        static void argument(boolean fine) {
            if (!fine) {
                throw new IllegalArgumentException();
            }
        }

        static void state(boolean fine) {
            if (!fine) {
                throw new IllegalStateException();
            }
        }

        long counted(long kind, long x) {
            argument(kind >= 0 && kind <= 3);
            state(column != null);
            return column.stream().filter(v -> kind == 0 ? v == x : kind == 1 ? v < x : kind == 2 ? v > x : (~v & x) == 0)
                    .count();
        }

        long summed(long low, long high) {
            state(column != null);
            BigInteger total = BigInteger.ZERO;
            for (long v : column) {
                if (low <= v && v <= high) {
                    total = total.add(BigInteger.valueOf(v));
                }
            }
            return total.longValue();
        }

        long filled(long from, long step, long n) {
            argument(n >= 1 && n <= 1024);
            state(row.size() + n <= 1024);
            for (int i = 0; i < n; i++) {
                row.add(from + i * step);
            }
            return row.size();
        }

        long answer(int call, long a, long b, int n) {
            switch (call) {
                case 0:
                    state(row.size() < 1024);
                    row.add(a);
                    return row.size();
                case 1:
                    return filled(a, b, n);
                case 2:
                    int had = row.size();
                    row.clear();
                    return had;
                case 3:
                    argument(n >= 0 && n <= 4);
                    state(!row.isEmpty());
                    return bitsOf(n).length() / 8;
                case 4:
                    state(!row.isEmpty());
                    return writeIn(lightest());
                case 5:
                    argument(n >= 0 && n <= 4);
                    state(!row.isEmpty());
                    return writeIn(n);
                case 6:
                    return form;
                case 7:
                    return bits.length() / 8;
                case 8:
                    argument(n >= 0 && n < bits.length() / 8);
                    return Integer.parseInt(bits.substring(8 * n, 8 * n + 8), 2);
                case 9:
                    argument(column != null && n >= 0 && n < column.size());
                    return column.get(n);
                case 10:
                    return counted(n, a);
                default:
                    return summed(a, b);
            }
        }
    }

    private static long answer(ColumnForms x, int call, long a, long b, int n) {
        switch (call) {
            case 0: return x.put(a);
            case 1: return x.fill(a, b, n);
            case 2: return x.clear();
            case 3: return x.weight(n);
            case 4: return x.write();
            case 5: return x.writeAs(n);
            case 6: return x.form();
            case 7: return x.size();
            case 8: return x.byteAt(n);
            case 9: return x.cell(n);
            case 10: return x.count(n, a);
            default: return x.sum(a, b);
        }
    }

    private static final String[] NAMES = {"put", "fill", "clear", "weight", "write", "writeAs", "form", "size",
        "byteAt", "cell", "count", "sum"};
    // How often each call comes: puts and reads often, clear seldom.
    private static final String OFTEN = "0".repeat(12) + "1".repeat(3) + "2" + "33" + "4" + "55" + "6" + "7"
            + "8".repeat(6) + "9".repeat(6) + "aaaa" + "bbb";

    private static long number(Random random, int flavour, List<Long> known) {
        long[] edges = {0, 1, -1, Long.MIN_VALUE, Long.MAX_VALUE, 255, 256, 1L << 32};
        if (!known.isEmpty() && random.nextInt(3) == 0) {
            return known.get(random.nextInt(known.size())) + random.nextInt(2);
        }
        switch (flavour) {
            case 0: return random.nextInt(3);
            case 1: return random.nextLong() >> random.nextInt(64);
            case 2: return edges[random.nextInt(edges.length)];
            case 3: return (random.nextInt(5) - 2L) << 59;
            default: return 1000L + random.nextInt(200);
        }
    }

    private static int small(Random random, int call, Model model, boolean toFull) {
        boolean off = random.nextInt(20) == 0;
        switch (call) {
            case 1: return off ? random.nextInt(1100) : random.nextInt(toFull ? 200 : 40);
            case 3:
            case 5: return off ? random.nextInt(9) - 2 : random.nextInt(5);
            case 8: return off ? random.nextInt(11000) - 10 : random.nextInt(model.bits.length() / 8 + 1);
            case 9: return off ? random.nextInt(1100) - 10 : random.nextInt(model.column == null ? 1 : model.column.size() + 1);
            default: return off ? random.nextInt(9) - 2 : random.nextInt(4);
        }
    }

    private static void run(int run) {
        Random random = new Random(run);
        ColumnForms x = new ColumnForms();
        Model model = new Model();
        int flavour = random.nextInt(5);
        boolean toFull = run % FULL_EVERY == 0;
        for (int i = 0; i < CALLS; i++) {
            int call = Character.digit(OFTEN.charAt(random.nextInt(OFTEN.length())), 16);
            call = toFull && call == 2 ? 1 : call;
            List<Long> known = model.column == null ? model.row : model.column;
            long a = number(random, flavour, known);
            long b = call == 1 && random.nextInt(2) == 0 ? random.nextInt(3) - 1 : number(random, flavour, known);
            int n = small(random, call, model, toFull);
            String want;
            String got;
            try {
                want = "" + model.answer(call, a, b, n);
            } catch (IllegalArgumentException | IllegalStateException e) {
                want = e.getClass().getName();
            }
            try {
                got = "" + answer(x, call, a, b, n);
            } catch (RuntimeException e) {
                got = e.getClass().getName();
            }
            if (!got.equals(want)) {
                wrong++;
                System.out.println("run " + run + ", call " + i + ": " + NAMES[call] + " of " + a + ", " + b + ", " + n
                        + " answered " + got + ", due is " + want);
                return;
            }
        }
    }

    public static void main(String[] args) {
        for (int run = 0; run < RUNS; run++) {
            run(run);
        }
        if (wrong > 0) {
            System.exit(1);
        }
    }
}
