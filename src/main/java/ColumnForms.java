import java.util.Arrays;

/** Columns of whole numbers, written in the shortest of five forms and read back from their bytes. */
public final class ColumnForms {
    public static final int NONE = -1;

    private static final int MOST_CELLS = 1024;
    private static final int FORM_COUNT = 5;
    private static final int KIND_COUNT = 4;

    private final Row row;
    private final Bytes column;
    private final Form[] forms;
    private int columnForm;
    private int columnCells;

    public ColumnForms() {
        row = new Row();
        column = new Bytes();
        forms = new Form[] {new Plain(), new Packed(), new Listed(), new Runs(), new Steps()};
        columnForm = NONE;
        columnCells = 0;
    }

    public int put(long v) throws IllegalStateException {
        if (row.length >= MOST_CELLS) {
            throw new IllegalStateException("the row is full");
        }
        row.add(v);
        return row.length;
    }

    public int fill(long from, long step, int n) throws IllegalArgumentException, IllegalStateException {
        if (n < 1 || n > MOST_CELLS) {
            throw new IllegalArgumentException("n is not 1 .. 1024");
        }
        if (n > MOST_CELLS - row.length) {
            throw new IllegalStateException("the row would have too many cells");
        }
        long v = from;
        for (int i = 0; i < n; i++) {
            row.add(v);
            v += step;
        }
        return row.length;
    }

    public int clear() {
        int had = row.length;
        row.empty();
        return had;
    }

    public int weight(int form) throws IllegalArgumentException, IllegalStateException {
        refuseUnknownForm(form);
        refuseEmptyRow();
        return forms[form].weigh(row);
    }

    public int write() throws IllegalStateException {
        refuseEmptyRow();
        return writeRow(lightestForm());
    }

    public int writeAs(int form) throws IllegalArgumentException, IllegalStateException {
        refuseUnknownForm(form);
        refuseEmptyRow();
        return writeRow(form);
    }

    public int form() {
        return columnForm;
    }

    public int size() {
        return column.length();
    }

    public int byteAt(int i) throws IllegalArgumentException {
        if (i < 0 || i >= column.length()) {
            throw new IllegalArgumentException("there is no such byte");
        }
        return column.octet(i);
    }

    public long cell(int i) throws IllegalArgumentException {
        if (columnForm == NONE || i < 0 || i >= columnCells) {
            throw new IllegalArgumentException("there is no such cell");
        }
        return forms[columnForm].read(column, i);
    }

    public int count(int kind, long x) throws IllegalArgumentException, IllegalStateException {
        if (kind < 0 || kind >= KIND_COUNT) {
            throw new IllegalArgumentException("kind is not 0 .. 3");
        }
        refuseNoColumn();
        Question question = new Question(kind, x, x);
        forms[columnForm].askAll(column, columnCells, question);
        return question.hits;
    }

    public long sum(long low, long high) throws IllegalStateException {
        refuseNoColumn();
        Question question = new Question(Question.BETWEEN, low, high);
        forms[columnForm].askAll(column, columnCells, question);
        return question.total;
    }

    private static void refuseUnknownForm(int form) {
        if (form < 0 || form >= FORM_COUNT) {
            throw new IllegalArgumentException("the form is not 0 .. 4");
        }
    }

    private void refuseEmptyRow() {
        if (row.length == 0) {
            throw new IllegalStateException("the row is empty");
        }
    }

    private void refuseNoColumn() {
        if (columnForm == NONE) {
            throw new IllegalStateException("there is no column");
        }
    }

    private int lightestForm() {
        int best = 0;
        int bestWeight = forms[0].weigh(row);
        for (int form = 1; form < FORM_COUNT; form++) {
            int weighs = forms[form].weigh(row);
            // Only what is lighter wins, so that the first of equals stays.
            if (weighs < bestWeight) {
                best = form;
                bestWeight = weighs;
            }
        }
        return best;
    }

    private int writeRow(int form) {
        column.restart();
        forms[form].lay(row, column);
        columnForm = form;
        columnCells = row.length;
        return column.length();
    }

    /** How many binary digits x has, taken as a number without a sign. */
    private static int bits(long x) {
        return 64 - Long.numberOfLeadingZeros(x);
    }

    private static int wholeBytes(int bitCount) {
        return (bitCount + 7) >> 3;
    }

    /**
     * The cells, and all that a weight depends on. It is kept up to date with each cell that comes,
     * so that no call has to go through or sort the row for it.
     */
    private static final class Row {
        int length;
        int different;
        int runs;
        long least;
        long greatest;
        long leastStep;
        long greatestStep;
        private final long[] cells = new long[MOST_CELLS];
        // Each different cell once, the least first.
        private final long[] rising = new long[MOST_CELLS];

        long at(int i) {
            return i >= 0 && i < length ? cells[i] : 0;
        }

        /** The different cell at a place among them; they stand in the order of whole numbers. */
        long differentAt(int place) {
            return place >= 0 && place < different ? rising[place] : 0;
        }

        /** How many of the different cells are less than v: the place of v, if it is one of them. */
        int placeOf(long v) {
            int place = 0;
            for (int jump = MOST_CELLS; jump > 0; jump >>= 1) {
                if (place + jump <= different && differentAt(place + jump - 1) < v) {
                    place += jump;
                }
            }
            return place;
        }

        void empty() {
            length = 0;
            different = 0;
            runs = 0;
        }

        void add(long v) {
            if (length >= MOST_CELLS) {
                return;
            }
            if (length == 0) {
                noteFirst(v);
            } else {
                noteNext(v, v - at(length - 1));
            }
            noteDifferent(v, placeOf(v));
            cells[length] = v;
            length++;
        }

        private void noteFirst(long v) {
            runs = 1;
            least = v;
            greatest = v;
            leastStep = 0;
            greatestStep = 0;
        }

        private void noteNext(long v, long step) {
            if (step != 0) {
                runs++;
            }
            least = Math.min(least, v);
            greatest = Math.max(greatest, v);
            // The zeros from before the first step are no steps.
            leastStep = length == 1 ? step : Math.min(leastStep, step);
            greatestStep = length == 1 ? step : Math.max(greatestStep, step);
        }

        private void noteDifferent(long v, int place) {
            boolean known = place < different && differentAt(place) == v;
            if (known || place < 0 || place > different || different >= MOST_CELLS) {
                return;
            }
            System.arraycopy(rising, place, rising, place + 1, different - place);
            rising[place] = v;
            different++;
        }
    }

    /** Bytes that are written bit behind bit, and read from any bit on; the highest bit comes first. */
    private static final class Bytes {
        // 1024 runs: no form of 1024 cells weighs more.
        private static final int MOST_BYTES = 2 + 10 * MOST_CELLS;
        // 64 bits that begin inside a byte touch nine.
        private static final int MOST_TOUCHED = 9;

        // Made with the first column: an object without one stays small.
        private byte[] octets = new byte[0];
        private int bitCount;

        int length() {
            return wholeBytes(bitCount);
        }

        int octet(int i) {
            return i >= 0 && i < octets.length ? octets[i] & 255 : 0;
        }

        void restart() {
            if (octets.length < MOST_BYTES) {
                octets = new byte[MOST_BYTES];
            }
            bitCount = 0;
        }

        void append(long value, int width) {
            int left = width;
            for (int turn = 0; turn < MOST_TOUCHED && left > 0; turn++) {
                int free = 8 - (bitCount & 7);
                int taken = Math.min(free, left);
                left -= taken;
                int part = (int) (value >>> left) & ((1 << taken) - 1);
                addToLast(part << (free - taken), taken);
            }
        }

        private void addToLast(int shifted, int taken) {
            int at = bitCount >> 3;
            if (at >= octets.length) {
                return;
            }
            // A byte that begins may still hold bits of an earlier column.
            int before = (bitCount & 7) == 0 ? 0 : octets[at];
            octets[at] = (byte) (before | shifted);
            bitCount += taken;
        }

        long bitsAt(int firstBit, int width) {
            long value = 0;
            int bit = firstBit;
            int left = width;
            for (int turn = 0; turn < MOST_TOUCHED && left > 0; turn++) {
                int free = 8 - (bit & 7);
                int taken = Math.min(free, left);
                int part = (octet(bit >> 3) >>> (free - taken)) & ((1 << taken) - 1);
                value = (value << taken) | part;
                bit += taken;
                left -= taken;
            }
            return value;
        }
    }

    /** What is asked of cells, and what came of it so far. */
    private static final class Question {
        private static final int EQUAL = 0;
        private static final int LESS = 1;
        private static final int GREATER = 2;
        private static final int ALL_BITS = 3;
        private static final int BETWEEN = 4;

        int hits;
        long total;
        private final int kind;
        private final long low;
        private final long high;

        Question(int kind, long low, long high) {
            this.kind = kind;
            this.low = low;
            this.high = high;
        }

        /** Asks once for as many cells as are v. */
        void ask(long v, int times) {
            if (fits(v)) {
                hits += times;
                total += v * times;
            }
        }

        private boolean fits(long v) {
            switch (kind) {
                case EQUAL:
                    return v == low;
                case LESS:
                    return v < low;
                case GREATER:
                    return v > low;
                case ALL_BITS:
                    return (v & low) == low;
                case BETWEEN:
                    return v >= low && v <= high;
                default:
                    return false;
            }
        }
    }

    /** One way to write cells as bytes. How many cells there are stands in no form's bytes. */
    private abstract static class Form {
        abstract int weigh(Row row);

        abstract void lay(Row row, Bytes out);

        abstract long read(Bytes in, int i);

        abstract void askAll(Bytes in, int cells, Question question);
    }

    private static final class Plain extends Form {
        int weigh(Row row) {
            return 8 * row.length;
        }

        void lay(Row row, Bytes out) {
            for (int i = 0; i < row.length; i++) {
                out.append(row.at(i), 64);
            }
        }

        long read(Bytes in, int i) {
            return in.bitsAt(64 * i, 64);
        }

        void askAll(Bytes in, int cells, Question question) {
            for (int i = 0; i < cells; i++) {
                question.ask(read(in, i), 1);
            }
        }
    }

    private static final class Packed extends Form {
        private static final int HEAD = 64 + 8;

        int weigh(Row row) {
            return wholeBytes(HEAD + row.length * widthOf(row));
        }

        void lay(Row row, Bytes out) {
            int width = widthOf(row);
            out.append(row.least, 64);
            out.append(width, 8);
            for (int i = 0; i < row.length; i++) {
                out.append(row.at(i) - row.least, width);
            }
        }

        long read(Bytes in, int i) {
            int width = (int) in.bitsAt(64, 8);
            return in.bitsAt(0, 64) + in.bitsAt(HEAD + i * width, width);
        }

        void askAll(Bytes in, int cells, Question question) {
            long least = in.bitsAt(0, 64);
            int width = (int) in.bitsAt(64, 8);
            for (int i = 0; i < cells; i++) {
                question.ask(least + in.bitsAt(HEAD + i * width, width), 1);
            }
        }

        private static int widthOf(Row row) {
            return bits(row.greatest - row.least);
        }
    }

    private static final class Listed extends Form {
        private static final int HEAD = 16;

        // How often each different cell stands in the column; used anew by each question.
        private final int[] often = new int[MOST_CELLS];

        int weigh(Row row) {
            return wholeBytes(placesFrom(row.different) + row.length * bits(row.different - 1));
        }

        void lay(Row row, Bytes out) {
            out.append(row.different, HEAD);
            for (int place = 0; place < row.different; place++) {
                out.append(row.differentAt(place), 64);
            }
            int width = bits(row.different - 1);
            for (int i = 0; i < row.length; i++) {
                out.append(row.placeOf(row.at(i)), width);
            }
        }

        long read(Bytes in, int i) {
            int different = differentIn(in);
            int width = bits(different - 1);
            return listedAt(in, (int) in.bitsAt(placesFrom(different) + i * width, width));
        }

        void askAll(Bytes in, int cells, Question question) {
            int different = Math.min(differentIn(in), often.length);
            countPlaces(in, cells, different);
            for (int place = 0; place < different; place++) {
                question.ask(listedAt(in, place), often[place]);
            }
        }

        private void countPlaces(Bytes in, int cells, int different) {
            Arrays.fill(often, 0);
            int width = bits(different - 1);
            int from = placesFrom(different);
            for (int i = 0; i < cells; i++) {
                int place = (int) in.bitsAt(from + i * width, width);
                if (place >= 0 && place < often.length) {
                    often[place]++;
                }
            }
        }

        private static int differentIn(Bytes in) {
            return (int) in.bitsAt(0, HEAD);
        }

        private static long listedAt(Bytes in, int place) {
            return in.bitsAt(HEAD + 64 * place, 64);
        }

        private static int placesFrom(int different) {
            return HEAD + 64 * different;
        }
    }

    private static final class Runs extends Form {
        private static final int HEAD = 16;
        private static final int RUN = 64 + 16;

        int weigh(Row row) {
            return wholeBytes(HEAD + RUN * row.runs);
        }

        void lay(Row row, Bytes out) {
            out.append(row.runs, HEAD);
            int start = 0;
            for (int i = 1; i <= row.length; i++) {
                if (i == row.length || row.at(i) != row.at(start)) {
                    out.append(row.at(start), 64);
                    out.append(i - start, 16);
                    start = i;
                }
            }
        }

        long read(Bytes in, int i) {
            int runs = runsIn(in);
            int behind = 0;
            for (int run = 0; run < runs; run++) {
                behind += lengthOf(in, run);
                if (i < behind) {
                    return cellOf(in, run);
                }
            }
            return 0;
        }

        void askAll(Bytes in, int cells, Question question) {
            int runs = runsIn(in);
            for (int run = 0; run < runs; run++) {
                question.ask(cellOf(in, run), lengthOf(in, run));
            }
        }

        private static int runsIn(Bytes in) {
            return (int) in.bitsAt(0, HEAD);
        }

        private static long cellOf(Bytes in, int run) {
            return in.bitsAt(HEAD + RUN * run, 64);
        }

        private static int lengthOf(Bytes in, int run) {
            return (int) in.bitsAt(HEAD + RUN * run + 64, 16);
        }
    }

    private static final class Steps extends Form {
        private static final int HEAD = 64 + 64 + 8;

        int weigh(Row row) {
            return wholeBytes(HEAD + (row.length - 1) * widthOf(row));
        }

        void lay(Row row, Bytes out) {
            int width = widthOf(row);
            out.append(row.at(0), 64);
            out.append(row.leastStep, 64);
            out.append(width, 8);
            for (int i = 1; i < row.length; i++) {
                out.append(row.at(i) - row.at(i - 1) - row.leastStep, width);
            }
        }

        long read(Bytes in, int i) {
            int width = widthIn(in);
            long v = in.bitsAt(0, 64) + i * in.bitsAt(64, 64);
            for (int step = 0; step < i; step++) {
                v += in.bitsAt(HEAD + step * width, width);
            }
            return v;
        }

        void askAll(Bytes in, int cells, Question question) {
            int width = widthIn(in);
            long leastStep = in.bitsAt(64, 64);
            long v = in.bitsAt(0, 64);
            question.ask(v, 1);
            for (int step = 0; step < cells - 1; step++) {
                v += leastStep + in.bitsAt(HEAD + step * width, width);
                question.ask(v, 1);
            }
        }

        private static int widthIn(Bytes in) {
            return (int) in.bitsAt(128, 8);
        }

        private static int widthOf(Row row) {
            return bits(row.greatestStep - row.leastStep);
        }
    }
}
