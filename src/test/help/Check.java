import java.util.Arrays;
import java.util.function.LongSupplier;
import java.util.function.Supplier;

/** What the tests share: answers are compared with those that are due, and end() tells whether all were right. */
abstract class Check {
    static final int PLAIN = 0;
    static final int PACKED = 1;
    static final int LIST = 2;
    static final int RUNS = 3;
    static final int STEPS = 4;
    static final int[] FORMS = {PLAIN, PACKED, LIST, RUNS, STEPS};
    static final long LEAST = Long.MIN_VALUE;
    static final long GREATEST = Long.MAX_VALUE;
    static final int FULL = 1024;
    static final String ARGUMENT = "IllegalArgumentException";
    static final String STATE = "IllegalStateException";

    // How many bytes or cells are read of one object, so that its calls stay below 512.
    private static final int READ_OF_ONE = 400;
    // Of one sentence; the rest is only counted.
    private static final int MOST_TOLD = 5;

    private static int wrong = 0;
    private static int told = 0;
    private static String sentence = "";

    /** The sentence of the document that the checks from here on are about. */
    static void about(String text) {
        sentence = text + " | ";
        told = 0;
    }

    /** Runs one test; an exception that no check expects ends it, and no other. */
    static void test(Runnable one) {
        about("");
        try {
            one.run();
        } catch (RuntimeException e) {
            tell("the test ended with " + e);
        }
    }

    private static void tell(String fault) {
        wrong++;
        told++;
        if (told <= MOST_TOLD) {
            System.out.println(sentence + fault);
        }
    }

    static void dueText(String what, String got, String want) {
        if (!got.equals(want)) {
            tell(what + ": answered " + got + ", due is " + want);
        }
    }

    static void due(String what, long got, long want) {
        dueText(what, "" + got, "" + want);
    }

    /** The answer of a call, or the name of what it throws. */
    static String answerOf(LongSupplier call) {
        try {
            return "" + call.getAsLong();
        } catch (RuntimeException e) {
            return e.getClass().getSimpleName();
        }
    }

    static void refused(String what, String exception, LongSupplier call) {
        dueText(what, answerOf(call), exception);
    }

    static void answers(String what, long want, LongSupplier call) {
        dueText(what, answerOf(call), "" + want);
    }

    static void end() {
        if (wrong > 0) {
            System.out.println(wrong + " wrong answers");
            System.exit(1);
        }
    }

    static Counted rowOf(long... cells) {
        Counted x = new Counted();
        for (long v : cells) {
            x.put(v);
        }
        return x;
    }

    static Counted columnOf(int form, long... cells) {
        Counted x = rowOf(cells);
        x.writeAs(form);
        return x;
    }

    /** A row of fills, each told as from, step and n. */
    static Counted filled(long... fills) {
        Counted x = new Counted();
        for (int i = 0; i < fills.length; i += 3) {
            x.fill(fills[i], fills[i + 1], (int) fills[i + 2]);
        }
        return x;
    }

    static Counted filledColumn(int form, long... fills) {
        Counted x = filled(fills);
        x.writeAs(form);
        return x;
    }

    /** The cells that such fills are due to give. */
    static long[] cellsOf(long... fills) {
        long[] cells = new long[FULL];
        int n = 0;
        for (int i = 0; i < fills.length; i += 3) {
            for (int k = 0; k < fills[i + 2]; k++) {
                cells[n] = fills[i] + k * fills[i + 1];
                n++;
            }
        }
        return Arrays.copyOf(cells, n);
    }

    /** All bytes of a column, which is made anew as often as it has to be. */
    static String hex(Supplier<Counted> made) {
        Counted x = made.get();
        int size = x.size();
        StringBuilder text = new StringBuilder();
        for (int i = 0; i < size; i++) {
            if (i % READ_OF_ONE == READ_OF_ONE - 1) {
                x = made.get();
            }
            text.append(String.format("%02x", x.byteAt(i)));
        }
        return text.toString();
    }

    static String hex(Counted x) {
        return hex(() -> x);
    }

    /** The column has these cells and no other. */
    static void cellsAre(String what, Supplier<Counted> made, long... cells) {
        Counted x = made.get();
        refused(what + ", cell -1", ARGUMENT, () -> made.get().cell(-1));
        refused(what + ", cell " + cells.length, ARGUMENT, () -> made.get().cell(cells.length));
        for (int i = 0; i < cells.length; i++) {
            if (i % READ_OF_ONE == READ_OF_ONE - 1) {
                x = made.get();
            }
            due(what + ", cell " + i, x.cell(i), cells[i]);
        }
    }

    static void cellsAre(String what, Counted x, long... cells) {
        cellsAre(what, () -> x, cells);
    }

    /** The row has these cells and no other, seen through a plain column. */
    static void rowIs(String what, Counted x, long... cells) {
        due(what + ", bytes", x.writeAs(PLAIN), 8L * cells.length);
        cellsAre(what, x, cells);
    }
}
