import java.util.Arrays;

/** One test for each sentence of the document that names a boundary case; about() quotes the sentence. */
public final class BoundaryTests extends Check {
    // Different cells that are far apart, so that neither packing nor steps make them short.
    private static final long WILD = 0x9e3779b97f4a7c15L;
    private static final int LEAST_INT = Integer.MIN_VALUE;
    private static final int GREATEST_INT = Integer.MAX_VALUE;

    public static void main(String[] args) {
        test(BoundaryTests::atMost512Calls);
        test(BoundaryTests::rowHas1024AtMost);
        test(BoundaryTests::bitsOfEachLength);
        test(BoundaryTests::bitsOfHowManyDiffer);
        test(BoundaryTests::partsOfBytes);
        test(BoundaryTests::numbersOfTwoBytes);
        test(BoundaryTests::packedOfOneCell);
        test(BoundaryTests::listOfOneCell);
        test(BoundaryTests::listInOrder);
        test(BoundaryTests::runsOfOneCell);
        test(BoundaryTests::stepsWithoutAny);
        test(BoundaryTests::differencesWrap);
        test(BoundaryTests::fullRowInEachForm);
        test(BoundaryTests::columnIsNoneAtFirst);
        test(BoundaryTests::columnIsWhatWasWrittenLast);
        test(BoundaryTests::newObject);
        test(BoundaryTests::putCountsUpToFull);
        test(BoundaryTests::fillBounds);
        test(BoundaryTests::fillUpToFull);
        test(BoundaryTests::fillWraps);
        test(BoundaryTests::clearOfEachLength);
        test(BoundaryTests::clearLeavesNothing);
        test(BoundaryTests::weightBounds);
        test(BoundaryTests::weightOfEmptyRow);
        test(BoundaryTests::writeTakesLeast);
        test(BoundaryTests::writeTakesFirstOfEqual);
        test(BoundaryTests::writeOfEmptyRow);
        test(BoundaryTests::writeAsBounds);
        test(BoundaryTests::writeAsOfEmptyRow);
        test(BoundaryTests::formAndSizeWithoutColumn);
        test(BoundaryTests::formAndSizeOfEach);
        test(BoundaryTests::byteAtBounds);
        test(BoundaryTests::byteAtWithoutSign);
        test(BoundaryTests::cellBounds);
        test(BoundaryTests::countBounds);
        test(BoundaryTests::countWithoutColumn);
        test(BoundaryTests::countAtTheEdge);
        test(BoundaryTests::sumWithoutColumn);
        test(BoundaryTests::sumAtTheEdge);
        test(BoundaryTests::sumWraps);
        test(BoundaryTests::firstNamedExceptionIsThrown);
        end();
    }

    private static int roundedUp(int bits) {
        return bits / 8 + (bits % 8 == 0 ? 0 : 1);
    }

    // What it is, and Terms

    private static void atMost512Calls() {
        about("An object is used for at most 512 calls after it has been made");
        Counted x = new Counted();
        for (int i = 1; i < Counted.MOST_CALLS - 1; i++) {
            x.put(i);
        }
        answers("call 511", 17, () -> x.writeAs(STEPS));
        answers("call 512", 510, () -> x.cell(509));
    }

    private static void rowHas1024AtMost() {
        about("Terms: THE ROW has cells, 1024 at most");
        Counted x = filled(0, 1, 1022);
        answers("put to 1023", 1023, () -> x.put(5));
        answers("put to 1024", 1024, () -> x.put(5));
        refused("put to 1025", STATE, () -> x.put(5));
        refused("fill to 1025", STATE, () -> x.fill(5, 0, 1));
        answers("all are there", 1024, () -> x.clear());
    }

    private static void bitsOfEachLength() {
        about("Terms: bits(x) how many binary digits x has as a number of 64 bits without a sign (0 for 0)");
        widthIs(0, 0);
        for (int k = 0; k < 64; k++) {
            widthIs(1L << k, k + 1);
            widthIs((1L << k) - 1, k);
            widthIs((1L << k) | 1, Math.max(k + 1, 1));
        }
        widthIs(-1, 64);
        widthIs(-2, 64);
        widthIs(LEAST, 64);
        widthIs(GREATEST, 63);
    }

    /** The least of longs and one that is greater by far, a number without a sign: as cells, and as steps. */
    private static void widthIs(long far, int width) {
        String what = Long.toUnsignedString(far);
        Counted packed = rowOf(LEAST, LEAST + far);
        due("packed weight of " + what, packed.weight(PACKED), 9 + roundedUp(2 * width));
        packed.writeAs(PACKED);
        due("packed w of " + what, packed.byteAt(8), width);
        cellsAre("packed " + what, packed, LEAST, LEAST + far);
        Counted steps = rowOf(0, LEAST, LEAST + LEAST + far);
        due("steps' weight of " + what, steps.weight(STEPS), 17 + roundedUp(2 * width));
        steps.writeAs(STEPS);
        due("steps' w of " + what, steps.byteAt(16), width);
        cellsAre("steps " + what, steps, 0, LEAST, LEAST + LEAST + far);
    }

    private static void bitsOfHowManyDiffer() {
        about("Terms: 2 LIST: .. then for each cell bits(d - 1) bits");
        int width = 0;
        for (int d = 1; d <= FULL; d++) {
            if (d - 1 >= 1 << width) {
                width++;
            }
            boolean edge = d == 1 << width || d - 1 == 1 << (width - 1) || d + 1 == 1 << width;
            if (edge || d < 10) {
                listOf(d, d, width);
                listOf(d, Math.min(FULL, d + 5), width);
            }
        }
    }

    private static void listOf(int d, int n, int width) {
        long[] fills = n == d ? new long[] {7, 3, d} : new long[] {7, 3, d, 7, 0, n - d};
        String what = d + " different of " + n;
        int bytes = 2 + 8 * d + roundedUp(n * width);
        due("weight of " + what, filled(fills).weight(LIST), bytes);
        due("bytes of " + what, filled(fills).writeAs(LIST), bytes);
        cellsAre(what, () -> filledColumn(LIST, fills), cellsOf(fills));
    }

    private static void partsOfBytes() {
        about("Terms: parts of bytes counting as whole (filled up with bits 0)");
        for (int width = 1; width <= 9; width++) {
            for (int n = 3; n <= 18; n++) {
                partsOf(PACKED, n, width, 9, n * width);
                partsOf(STEPS, n, width, 17, (n - 1) * width);
            }
        }
        for (int n = 2; n <= 18; n++) {
            partsOf(LIST, n, 1, 18, n);
        }
        due("9 places of one bit", filled(0, 1, 1, 1, 0, 8).weight(LIST), 20);
        due("5 places of two bits", filled(0, 1, 3, 2, 0, 2).weight(LIST), 2 + 24 + 2);
        due("4 places of two bits", filled(0, 1, 3, 2, 0, 1).weight(LIST), 2 + 24 + 1);
    }

    /** Numbers that are all ones but for the first, which is 0, written over a column whose bits are all ones. */
    private static void partsOf(int form, int n, int width, int head, int bits) {
        String what = n + " cells of " + width + " bits in form " + form;
        long high = (1L << width) - 1;
        Counted x = filledColumn(PLAIN, -1, 0, 40);
        x.clear();
        x.put(0);
        if (form == STEPS) {
            x.fill(0, high, n - 1);
        } else {
            x.fill(high, 0, n - 1);
        }
        int bytes = head + roundedUp(bits);
        due("weight of " + what, x.weight(form), bytes);
        due("bytes of " + what, x.writeAs(form), bytes);
        String numbers = "0".repeat(width) + "1".repeat(bits - width) + "0".repeat(8 * roundedUp(bits) - bits);
        String last = numbers.substring(numbers.length() - 8);
        due("last byte of " + what, x.byteAt(bytes - 1), Integer.parseInt(last, 2));
        refused("a byte behind " + what, ARGUMENT, () -> x.byteAt(bytes));
    }

    private static void numbersOfTwoBytes() {
        about("Terms: Numbers are written with the highest byte, or bit, first");
        for (int n : new int[] {1, 255, 256, 257, 511, 512, 513, 1023, 1024}) {
            Counted runs = filledColumn(RUNS, WILD, WILD, n);
            due("high byte of " + n + " runs", runs.byteAt(0), n / 256);
            due("low byte of " + n + " runs", runs.byteAt(1), n % 256);
            due("bytes of " + n + " runs", runs.size(), 2 + 10 * n);
            Counted list = filledColumn(LIST, WILD, WILD, n);
            due("high byte of " + n + " different", list.byteAt(0), n / 256);
            due("low byte of " + n + " different", list.byteAt(1), n % 256);
            Counted run = filledColumn(RUNS, 6, 0, n);
            due("bytes of a run of " + n, run.size(), 12);
            due("high byte of a run of " + n, run.byteAt(10), n / 256);
            due("low byte of a run of " + n, run.byteAt(11), n % 256);
        }
        dueText("cells", hex(columnOf(PLAIN, 0x0102030405060708L, LEAST + 1)), "01020304050607088000000000000001");
        dueText("bits", hex(columnOf(PACKED, 0, 4, 1)), "0000000000000000" + "03" + "1080");
    }

    private static void packedOfOneCell() {
        about("Terms: 1 PACKED: .. w = bits(greatest - least) in one, then w bits for each cell");
        dueText("one cell", hex(columnOf(PACKED, -1)), "ffffffffffffffff" + "00");
        dueText("1024 same cells", hex(filledColumn(PACKED, LEAST, 0, FULL)), "8000000000000000" + "00");
        cellsAre("1024 same cells", () -> filledColumn(PACKED, LEAST, 0, FULL), cellsOf(LEAST, 0, FULL));
        dueText("the least is the last", hex(columnOf(PACKED, 3, 2, 1)), "0000000000000001" + "02" + "90");
        dueText("the least has a sign", hex(columnOf(PACKED, 0, -1)), "ffffffffffffffff" + "01" + "80");
    }

    private static void listOfOneCell() {
        about("Terms: 2 LIST: how many different cells there are (d) in 2 bytes");
        dueText("one cell", hex(columnOf(LIST, GREATEST)), "0001" + "7fffffffffffffff");
        dueText("1024 same cells", hex(filledColumn(LIST, -2, 0, FULL)), "0001" + "fffffffffffffffe");
        cellsAre("1024 same cells", () -> filledColumn(LIST, -2, 0, FULL), cellsOf(-2, 0, FULL));
        dueText("a cell that comes again is no other one", hex(columnOf(LIST, 4, 6, 4)),
                "0002" + "0000000000000004" + "0000000000000006" + "40");
    }

    private static void listInOrder() {
        about("Terms: 2 LIST: .. these in their order .. its place among them, from 0");
        String four = "0004" + "8000000000000000" + "ffffffffffffffff" + "0000000000000000" + "7fffffffffffffff";
        dueText("rising", hex(columnOf(LIST, LEAST, -1, 0, GREATEST)), four + "1b");
        dueText("falling", hex(columnOf(LIST, GREATEST, 0, -1, LEAST)), four + "e4");
        dueText("a new least behind", hex(columnOf(LIST, 0, GREATEST, -1, LEAST)), four + "b4");
    }

    private static void runsOfOneCell() {
        about("Terms: 3 RUNS: how many rows of the same cell there are behind one another");
        dueText("one cell", hex(columnOf(RUNS, 9)), "0001" + "0000000000000009" + "0001");
        dueText("a run that ends the row", hex(columnOf(RUNS, 9, 8, 8)),
                "0002" + "0000000000000009" + "0001" + "0000000000000008" + "0002");
        dueText("a cell that comes again later is a run of its own", hex(columnOf(RUNS, 1, 2, 1)),
                "0003" + "0000000000000001" + "0001" + "0000000000000002" + "0001" + "0000000000000001" + "0001");
        long[] fills = {5, 0, 1, 6, 0, 255, 5, 0, 256, 6, 0, 257, 5, 0, 255};
        due("five runs", filledColumn(RUNS, fills).size(), 52);
        cellsAre("five runs", () -> filledColumn(RUNS, fills), cellsOf(fills));
        due("two fills of one cell are one run", filled(3, 0, 512, 3, 0, 512).weight(RUNS), 12);
    }

    private static void stepsWithoutAny() {
        about("Terms: 4 STEPS: .. without any the least is 0 and w is 0");
        for (long v : new long[] {0, 1, -1, LEAST, GREATEST}) {
            Counted x = columnOf(STEPS, v);
            dueText("one cell " + v, hex(x), String.format("%016x", v) + "0000000000000000" + "00");
            cellsAre("one cell " + v, x, v);
        }
        about("Terms: 4 STEPS: .. steps are each cell but the first less the one before");
        dueText("one step", hex(columnOf(STEPS, 7, 2)), "0000000000000007" + "fffffffffffffffb" + "00");
        dueText("the least step is above 0", hex(columnOf(STEPS, 0, 2, 5)), "0000000000000000" + "0000000000000002" + "01" + "40");
        dueText("the greatest step is below 0", hex(columnOf(STEPS, 0, -2, -5)),
                "0000000000000000" + "fffffffffffffffd" + "01" + "80");
        due("1023 same steps", filledColumn(STEPS, 5, WILD, FULL).size(), 17);
        cellsAre("1023 same steps", () -> filledColumn(STEPS, 5, WILD, FULL), cellsOf(5, WILD, FULL));
    }

    private static void differencesWrap() {
        about("Terms: All differences wrap, as longs");
        dueText("packed from least to greatest", hex(columnOf(PACKED, GREATEST, LEAST)),
                "8000000000000000" + "40" + "ffffffffffffffff" + "0000000000000000");
        dueText("packed over the sign", hex(columnOf(PACKED, -1, GREATEST)),
                "ffffffffffffffff" + "40" + "0000000000000000" + "8000000000000000");
        due("packed just within", rowOf(0, GREATEST).weight(PACKED), 9 + 16);
        due("packed just within, 63 bits", columnOf(PACKED, 0, GREATEST).byteAt(8), 63);
        dueText("a step from the greatest to the least is 1", hex(columnOf(STEPS, GREATEST - 1, GREATEST, LEAST, LEAST + 1)),
                "7ffffffffffffffe" + "0000000000000001" + "00");
        dueText("a step from the least to the greatest is -1", hex(columnOf(STEPS, LEAST, GREATEST)),
                "8000000000000000" + "ffffffffffffffff" + "00");
        dueText("steps half round are the least of longs", hex(columnOf(STEPS, 0, LEAST, 0)),
                "0000000000000000" + "8000000000000000" + "00");
        dueText("between the greatest and the least step", hex(columnOf(STEPS, 0, LEAST, -1)),
                "0000000000000000" + "8000000000000000" + "40" + "0000000000000000" + "ffffffffffffffff");
        cellsAre("between the greatest and the least step", columnOf(STEPS, 0, LEAST, -1), 0, LEAST, -1);
    }

    private static void fullRowInEachForm() {
        about("Terms: A form WEIGHS as many bytes as it has");
        long[] same = {GREATEST, 0, FULL};
        long[] wild = {WILD, WILD, FULL};
        // Steps of the least and of the greatest long: no form can make them short.
        long[] steep = {0, GREATEST, 512, 5, LEAST, 1, 7, WILD, 511};
        int[][] weights = {{8192, 9, 10, 12, 17}, {8192, 8201, 9474, 10242, 17}, {8192, 8201, 9474, 10242, 8201}};
        long[][] rows = {same, wild, steep};
        for (int r = 0; r < rows.length; r++) {
            long[] fills = rows[r];
            for (int form : FORMS) {
                String what = "full row " + r + " in form " + form;
                due("weight of " + what, filled(fills).weight(form), weights[r][form]);
                due("size of " + what, filledColumn(form, fills).size(), weights[r][form]);
                due("bytes of " + what, hex(() -> filledColumn(form, fills)).length() / 2, weights[r][form]);
                refused("a byte behind " + what, ARGUMENT, () -> {
                    Counted x = filledColumn(form, fills);
                    return x.byteAt(x.size());
                });
                cellsAre(what, () -> filledColumn(form, fills), cellsOf(fills));
            }
        }
    }

    private static void columnIsNoneAtFirst() {
        about("Terms: THE COLUMN is what was written last: none at first");
        Counted x = filled(1, 1, 5);
        for (int form : FORMS) {
            x.weight(form);
        }
        hasNoColumn("a row that was only weighed", x);
        x.clear();
        hasNoColumn("a row that was cleared", x);
        refused("a write that is refused", STATE, () -> x.write());
        refused("a writeAs that is refused", STATE, () -> x.writeAs(PLAIN));
        x.put(3);
        refused("a form that is refused", ARGUMENT, () -> x.writeAs(5));
        hasNoColumn("behind refused writes", x);
    }

    private static void hasNoColumn(String what, Counted x) {
        answers(what + ", form", ColumnForms.NONE, () -> x.form());
        answers(what + ", size", 0, () -> x.size());
        refused(what + ", byte", ARGUMENT, () -> x.byteAt(0));
        refused(what + ", cell", ARGUMENT, () -> x.cell(0));
        for (int kind = 0; kind < 4; kind++) {
            int asked = kind;
            refused(what + ", count " + kind, STATE, () -> x.count(asked, 0));
        }
        refused(what + ", sum", STATE, () -> x.sum(LEAST, GREATEST));
    }

    private static void columnIsWhatWasWrittenLast() {
        about("Terms: THE COLUMN is what was written last");
        for (int before : FORMS) {
            for (int form : FORMS) {
                String what = "form " + form + " behind " + before;
                Counted x = filledColumn(before, -1, LEAST + 5, 40);
                x.clear();
                x.put(6);
                x.put(-6);
                int size = x.writeAs(form);
                x.clear();
                x.fill(3, 9, 60);
                due(what, x.form(), form);
                cellsAre(what, x, 6, -6);
                dueText(what + ", bytes", hex(x), hex(columnOf(form, 6, -6)));
                refused(what + ", a byte of the longer column", ARGUMENT, () -> x.byteAt(size));
                due(what + ", count", x.count(2, LEAST), 2);
                due(what + ", sum", x.sum(LEAST, GREATEST), 0);
            }
        }
    }

    // Promises 1 to 4: the row

    private static void newObject() {
        about("1 ColumnForms(): An empty row, no column");
        hasNoColumn("new", new Counted());
        answers("nothing to clear", 0, () -> new Counted().clear());
        answers("the first cell", 1, () -> new Counted().put(0));
        answers("room for 1024", 1024, () -> new Counted().fill(0, 0, FULL));
        Counted full = filledColumn(PLAIN, 1, 1, FULL);
        hasNoColumn("new beside a full one", new Counted());
        refused("empty beside a full one", STATE, () -> new Counted().write());
        answers("the full one", 1024, () -> full.clear());
    }

    private static void putCountsUpToFull() {
        about("2 put: A cell comes behind the row: how many there are");
        for (long v : new long[] {0, -1, LEAST, GREATEST}) {
            Counted x = new Counted();
            answers("first " + v, 1, () -> x.put(v));
            answers("the same again " + v, 2, () -> x.put(v));
            rowIs("twice " + v, x, v, v);
        }
        about("2 put: Illegal state: there are 1024");
        Counted x = filled(0, 1, 1023);
        answers("the last that fits", 1024, () -> x.put(GREATEST));
        refused("one more", STATE, () -> x.put(1));
        refused("and again", STATE, () -> x.put(1));
        x.writeAs(LIST);
        answers("the last cell", GREATEST, () -> x.cell(1023));
        refused("a full row with a column", STATE, () -> x.put(1));
        x.clear();
        answers("behind clear", 1, () -> x.put(1));
    }

    private static void fillBounds() {
        about("3 fill: Illegal argument: n is not 1 .. 1024");
        for (int n : new int[] {0, -1, -1024, 1025, 2048, LEAST_INT, LEAST_INT + 1, GREATEST_INT}) {
            refused("n " + n, ARGUMENT, () -> new Counted().fill(1, 1, n));
            refused("n " + n + " on a row", ARGUMENT, () -> rowOf(1).fill(1, 1, n));
        }
        for (int n : new int[] {1, 2, 1023, 1024}) {
            answers("n " + n, n, () -> new Counted().fill(1, 1, n));
        }
    }

    private static void fillUpToFull() {
        about("3 fill: illegal state: there would be more than 1024");
        for (int has : new int[] {1, 2, 511, 512, 513, 1022, 1023}) {
            Counted x = filled(0, 1, has);
            refused(has + " and one too many", STATE, () -> x.fill(7, 1, 1025 - has));
            refused(has + " and 1024", STATE, () -> x.fill(7, 1, FULL));
            answers(has + " and the rest", 1024, () -> x.fill(7, 1, 1024 - has));
            refused("1024 and one", STATE, () -> x.fill(7, 1, 1));
            refused("1024 and 1024", STATE, () -> x.fill(7, 1, FULL));
            x.writeAs(PLAIN);
            due("the last of the cells before", x.cell(has - 1), has - 1);
            due("the first that came", x.cell(has), 7);
            due("the last that came", x.cell(1023), 7 + 1023 - has);
        }
    }

    private static void fillWraps() {
        about("3 fill: from, from + step, and so on (wrapping)");
        long[][] fills = {
            {GREATEST, 1, 3}, {LEAST, -1, 3}, {GREATEST - 1, 1, 4}, {0, LEAST, 4}, {1, GREATEST, 5}, {LEAST, LEAST, 3},
            {-1, LEAST, 3}, {GREATEST, GREATEST, 4}, {5, 0, 3}, {5, 3, 1}, {LEAST, 0, 2}, {0, -7, 4}, {0, 1L << 62, 6},
        };
        for (long[] f : fills) {
            rowIs("fill" + Arrays.toString(f), filled(f), cellsOf(f));
        }
        rowIs("up over the greatest", filled(GREATEST, 1, 2), GREATEST, LEAST);
        rowIs("down over the least", filled(LEAST, -1, 2), LEAST, GREATEST);
        rowIs("half round and round", filled(3, LEAST, 3), 3, LEAST + 3, 3);
        rowIs("one cell, no step", filled(8, GREATEST, 1, 9, 1, 1), 8, 9);
    }

    private static void clearOfEachLength() {
        about("4 clear: The row is empty then: how many cells it had");
        for (int n : new int[] {1, 2, 1023, 1024}) {
            Counted x = filled(4, 1, n);
            answers("of " + n, n, () -> x.clear());
            answers("and again", 0, () -> x.clear());
            refused("no write behind it", STATE, () -> x.write());
            answers("room for 1024 behind it", 1024, () -> x.fill(1, 2, FULL));
        }
        answers("of none", 0, () -> new Counted().clear());
        for (int form : FORMS) {
            Counted x = columnOf(form, 4, 9, 4);
            String before = hex(x);
            x.clear();
            dueText("the column stays in form " + form, hex(x), before);
            due("the form stays", x.form(), form);
            cellsAre("the column's cells stay", x, 4, 9, 4);
        }
    }

    private static void clearLeavesNothing() {
        about("4 clear: The row is empty then");
        long[][] befores = {{LEAST, 1, 1, GREATEST, -1, 1, 0, WILD, 300}, {WILD, WILD, FULL}, {5, 0, FULL}, {GREATEST, 0, 1}};
        long[][] afters = {{5}, {-5, -5}, {5, 6, 5}, {LEAST, 0, GREATEST}};
        for (long[] before : befores) {
            for (long[] after : afters) {
                Counted x = filled(before);
                x.clear();
                Counted fresh = rowOf(after);
                for (long v : after) {
                    x.put(v);
                }
                for (int form : FORMS) {
                    String what = Arrays.toString(after) + " behind " + Arrays.toString(before) + " in form " + form;
                    due("weight of " + what, x.weight(form), fresh.weight(form));
                    x.writeAs(form);
                    fresh.writeAs(form);
                    dueText("bytes of " + what, hex(x), hex(fresh));
                }
            }
        }
    }

    // Promises 5 to 9: weighing and writing

    private static void weightBounds() {
        about("5 weight: Illegal argument: it is not 0 .. 4");
        int[] weights = {8, 9, 10, 12, 17};
        for (int form : new int[] {-1, -5, 5, 6, 256, LEAST_INT, GREATEST_INT}) {
            refused("form " + form, ARGUMENT, () -> rowOf(1).weight(form));
        }
        for (int form : FORMS) {
            answers("form " + form, weights[form], () -> rowOf(1).weight(form));
        }
    }

    private static void weightOfEmptyRow() {
        about("5 weight: illegal state: the row is empty");
        for (int form : FORMS) {
            refused("new, form " + form, STATE, () -> new Counted().weight(form));
            Counted x = columnOf(form, 1, 2);
            x.clear();
            refused("cleared, with a column, form " + form, STATE, () -> x.weight(form));
            x.put(0);
            answers("one cell", new int[] {8, 9, 10, 12, 17}[form], () -> x.weight(form));
        }
    }

    private static void writes(String what, int form, int bytes, Counted x) {
        answers(what + ", bytes", bytes, () -> x.write());
        due(what + ", form", x.form(), form);
        due(what + ", size", x.size(), bytes);
        for (int other : FORMS) {
            int weighs = x.weight(other);
            boolean better = other < form ? weighs <= bytes : weighs < bytes;
            due(what + ", form " + other + " would be better", better ? 1 : 0, 0);
        }
    }

    private static Counted nearSteps(long far, long more) {
        return rowOf(0, far, 2 * far + more);
    }

    /** Four steps once round all longs, which differ by twice as much as is told. */
    private static Counted roundSteps(long off) {
        long quarter = 1L << 62;
        return rowOf(0, quarter, 2 * quarter + off, 3 * quarter, 0);
    }

    private static void writeTakesLeast() {
        about("6 write: in the form that weighs least");
        long far = 1L << 60;
        writes("packed by one byte before plain", PACKED, 15, rowOf(0, (1L << 24) - 1));
        writes("list by one byte before plain", LIST, 79, filled(WILD, WILD, 8, 0, far, 1, WILD, 0, 1));
        writes("steps by one byte before plain", STEPS, 23, nearSteps(1L << 41, (1L << 24) - 1));
        writes("list by one byte before packed", LIST, 19, rowOf(0, 1024, 0, 1024, 0, 1024, 0, 1024));
        writes("runs by one byte before packed", RUNS, 22, filled(0, 0, 60, 1, 0, 45));
        writes("steps by one byte before packed", STEPS, 17, nearSteps(1L << 20, 0));
        writes("runs by one byte before list", RUNS, 22, filled(0, 0, 16, far, 0, 17));
        writes("steps by one byte before list", STEPS, 35, roundSteps(1L << 34));
        writes("steps by one byte before runs", STEPS, 31, filled(0, 0, 40, 1, 0, 40, 2, 0, 33));
        writes("plain by one byte before packed", PLAIN, 16, rowOf(0, 1L << 28));
        writes("plain with one cell", PLAIN, 8, rowOf(LEAST));
        writes("packed with 1024 same cells", PACKED, 9, filled(WILD, 0, FULL));
        writes("plain with 1024 cells that no form makes short", PLAIN, 8192,
                filled(0, GREATEST, 512, 5, LEAST, 1, 7, WILD, 511));
    }

    private static void writeTakesFirstOfEqual() {
        about("6 write: the first of those that weigh the same");
        long far = 1L << 60;
        writes("plain and packed", PLAIN, 16, rowOf(0, (1L << 28) - 1));
        writes("plain and list", PLAIN, 96, filled(WILD, WILD, 10, 0, far, 1, WILD, 0, 1));
        writes("plain and steps", PLAIN, 24, nearSteps(1L << 41, (1L << 28) - 1));
        writes("packed and list", PACKED, 19, rowOf(0, 1023, 0, 1023, 0, 1023, 0, 1023));
        writes("packed and runs", PACKED, 22, filled(0, 0, 60, 1, 0, 44));
        writes("packed and steps", PACKED, 17, nearSteps((1L << 20) - 1, 0));
        writes("list and runs", LIST, 22, filled(0, 0, 16, far, 0, 16));
        writes("list and steps", LIST, 36, roundSteps(1L << 36));
        writes("runs and steps", RUNS, 32, filled(0, 0, 40, 1, 0, 40, 2, 0, 41));
    }

    private static void writeOfEmptyRow() {
        about("6 write: Illegal state: the row is empty");
        refused("new", STATE, () -> new Counted().write());
        for (int form : FORMS) {
            Counted x = columnOf(form, 1, 2);
            String before = hex(x);
            x.clear();
            refused("cleared", STATE, () -> x.write());
            due("the column's form", x.form(), form);
            dueText("the column's bytes", hex(x), before);
            x.put(5);
            answers("one cell is enough", 8, () -> x.write());
        }
        about("6 write: The row (which stays) is written");
        Counted x = filled(9, 1, 1023);
        x.write();
        answers("one cell more fits", 1024, () -> x.put(1));
        x.write();
        refused("a full row stays full", STATE, () -> x.put(1));
        answers("it has all its cells", 1024, () -> x.clear());
    }

    private static void writeAsBounds() {
        about("7 writeAs: Illegal argument: it is not 0 .. 4");
        for (int form : new int[] {-1, -5, 5, 6, 256, LEAST_INT, GREATEST_INT}) {
            refused("form " + form, ARGUMENT, () -> rowOf(1).writeAs(form));
            refused("form " + form + ", full row", ARGUMENT, () -> filled(1, 1, FULL).writeAs(form));
        }
        about("7 writeAs: As write(), in a form that is told");
        int[] weights = {8, 9, 10, 12, 17};
        for (int form : FORMS) {
            Counted x = rowOf(-7);
            answers("bytes in form " + form, weights[form], () -> x.writeAs(form));
            due("form " + form, x.form(), form);
            cellsAre("form " + form, x, -7);
            answers("the row stays", 1, () -> x.clear());
        }
    }

    private static void writeAsOfEmptyRow() {
        about("7 writeAs: illegal state");
        for (int form : FORMS) {
            refused("new, form " + form, STATE, () -> new Counted().writeAs(form));
            Counted x = columnOf(PLAIN, 3, 4, 4);
            String before = hex(x);
            x.clear();
            refused("cleared, form " + form, STATE, () -> x.writeAs(form));
            due("the column's form", x.form(), PLAIN);
            dueText("the column's bytes", hex(x), before);
        }
    }

    private static void formAndSizeWithoutColumn() {
        about("8 form: NONE without one");
        answers("new", -1, () -> new Counted().form());
        answers("a full row", -1, () -> filled(1, 1, FULL).form());
        about("9 size: 0 without one");
        answers("new", 0, () -> new Counted().size());
        answers("a full row", 0, () -> filled(1, 1, FULL).size());
    }

    private static void formAndSizeOfEach() {
        about("8 form: The form of the column; 9 size: How many bytes the column has");
        int[] weights = {8, 9, 10, 12, 17};
        int[] fulls = {8192, 1289, 9474, 10242, 17};
        for (int form : FORMS) {
            Counted x = columnOf(form, 3);
            due("the least column, form " + form, x.form(), form);
            due("the least column, size in form " + form, x.size(), weights[form]);
            x.fill(4, 1, 1023);
            due("the row is not the column, form " + form, x.form(), form);
            due("the row is not the column, size in form " + form, x.size(), weights[form]);
            x.writeAs(form);
            x.clear();
            due("the full column, form " + form, x.form(), form);
            due("the full column, size in form " + form, x.size(), fulls[form]);
        }
    }

    // Promises 10 to 13: reading and asking

    private static void byteAtBounds() {
        about("10 byteAt: Illegal argument: there is no such byte");
        for (int i : new int[] {0, -1, 1, LEAST_INT, GREATEST_INT}) {
            refused("no column, byte " + i, ARGUMENT, () -> new Counted().byteAt(i));
            refused("a row and no column, byte " + i, ARGUMENT, () -> filled(1, 1, FULL).byteAt(i));
        }
        int[] sizes = {8, 9, 10, 12, 17};
        int[] lasts = {255, 0, 255, 1, 0};
        for (int form : FORMS) {
            Counted x = columnOf(form, -1);
            answers("last of form " + form, lasts[form], () -> x.byteAt(sizes[form] - 1));
            for (int i : new int[] {-1, sizes[form], sizes[form] + 1, 1024, 10241, LEAST_INT, GREATEST_INT}) {
                refused("byte " + i + " of form " + form, ARGUMENT, () -> x.byteAt(i));
            }
        }
        Counted longest = filledColumn(RUNS, 1, 1, FULL);
        answers("last of the longest column", 1, () -> longest.byteAt(10241));
        refused("behind the longest column", ARGUMENT, () -> longest.byteAt(10242));
        longest.writeAs(STEPS);
        answers("last of a shorter one", 0, () -> longest.byteAt(16));
        refused("behind a shorter one", ARGUMENT, () -> longest.byteAt(17));
    }

    private static void byteAtWithoutSign() {
        about("10 byteAt: Byte i of the column, 0 .. 255");
        Counted x = columnOf(PLAIN, 0x007f80ff01fe817eL);
        int[] want = {0, 127, 128, 255, 1, 254, 129, 126};
        for (int i = 0; i < want.length; i++) {
            due("byte " + i, x.byteAt(i), want[i]);
        }
    }

    private static void cellBounds() {
        about("11 cell: Illegal argument: there is no such cell");
        for (int i : new int[] {0, -1, 1, LEAST_INT, GREATEST_INT}) {
            refused("no column, cell " + i, ARGUMENT, () -> new Counted().cell(i));
            refused("a row and no column, cell " + i, ARGUMENT, () -> filled(1, 1, FULL).cell(i));
        }
        for (int form : FORMS) {
            Counted x = columnOf(form, LEAST, 3, GREATEST);
            x.fill(1, 1, 1021);
            answers("first in form " + form, LEAST, () -> x.cell(0));
            answers("last in form " + form, GREATEST, () -> x.cell(2));
            for (int i : new int[] {-1, 3, 4, 1023, 1024, LEAST_INT, GREATEST_INT}) {
                refused("cell " + i + " in form " + form, ARGUMENT, () -> x.cell(i));
            }
            x.writeAs(form);
            answers("last of the full column in form " + form, 1021, () -> x.cell(1023));
            refused("behind the full column in form " + form, ARGUMENT, () -> x.cell(1024));
            x.clear();
            answers("the column stays in form " + form, 1021, () -> x.cell(1023));
            x.put(4);
            x.writeAs(form);
            answers("the only cell in form " + form, 4, () -> x.cell(0));
            refused("behind the only cell in form " + form, ARGUMENT, () -> x.cell(1));
        }
    }

    private static void countBounds() {
        about("12 count: Illegal argument: kind is none of these");
        for (int form : FORMS) {
            Counted x = columnOf(form, 1, 2, 3, 3);
            for (int kind : new int[] {-1, -4, 4, 5, 256, LEAST_INT, GREATEST_INT}) {
                refused("kind " + kind, ARGUMENT, () -> x.count(kind, 2));
            }
            answers("kind 0", 1, () -> x.count(0, 2));
            answers("kind 1", 1, () -> x.count(1, 2));
            answers("kind 2", 2, () -> x.count(2, 2));
            answers("kind 3", 3, () -> x.count(3, 2));
        }
    }

    private static void countWithoutColumn() {
        about("12 count: illegal state: there is no column");
        for (int kind = 0; kind < 4; kind++) {
            int asked = kind;
            refused("new, kind " + kind, STATE, () -> new Counted().count(asked, 0));
            refused("a row, kind " + kind, STATE, () -> rowOf(0).count(asked, 0));
            refused("a full row, kind " + kind, STATE, () -> filled(0, 0, FULL).count(asked, 0));
        }
    }

    /** What is asked, each time: x, and how many cells are due for each kind. */
    private static void counted(long[] cells, long... asked) {
        for (int form : FORMS) {
            Counted x = columnOf(form, cells);
            x.clear();
            for (int i = 0; i < asked.length; i += 5) {
                for (int kind = 0; kind < 4; kind++) {
                    due("count(" + kind + ", " + asked[i] + ") of " + Arrays.toString(cells) + " in form " + form,
                            x.count(kind, asked[i]), asked[i + 1 + kind]);
                }
            }
        }
    }

    private static void countAtTheEdge() {
        about("12 count: are x (kind 0), are less than x (1), are greater than x (2), have all bits that x has (3)");
        long[] edges = {LEAST, LEAST, LEAST + 1, -1, 0, 1, GREATEST - 1, GREATEST};
        counted(edges, LEAST, 2, 0, 6, 4, LEAST + 1, 1, 2, 5, 2);
        counted(edges, GREATEST, 1, 7, 0, 2, GREATEST - 1, 1, 6, 1, 3);
        counted(edges, 0, 1, 4, 3, 8, -1, 1, 3, 4, 1);
        counted(edges, 1, 1, 5, 2, 4, 2, 0, 6, 2, 3);
        counted(new long[] {7}, 7, 1, 0, 0, 1, 6, 0, 0, 1, 1, 8, 0, 1, 0, 0);
        counted(new long[] {6, 6, 6}, 6, 3, 0, 0, 3, 5, 0, 0, 3, 0, 0, 0, 0, 3, 3);
        long[][] rows = {{5, 0, FULL}, {5, 0, 1023, 6, 0, 1}, {6, 0, 1, 5, 0, 1023}};
        int[][] due = {{1024, 0, 0, 1024}, {1023, 0, 1, 1023}, {1023, 0, 1, 1023}};
        for (int form : FORMS) {
            for (int r = 0; r < rows.length; r++) {
                Counted x = filledColumn(form, rows[r]);
                for (int kind = 0; kind < 4; kind++) {
                    due("full row " + r + ", kind " + kind + " in form " + form, x.count(kind, 5), due[r][kind]);
                }
            }
            Counted rising = filledColumn(form, 0, 1, FULL);
            due("all less in form " + form, rising.count(1, 1024), 1024);
            due("all but one less in form " + form, rising.count(1, 1023), 1023);
            due("all greater in form " + form, rising.count(2, -1), 1024);
            due("all but one greater in form " + form, rising.count(2, 0), 1023);
            due("half have the bit in form " + form, rising.count(3, 512), 512);
            due("the last in form " + form, rising.count(0, 1023), 1);
            due("all bits in form " + form, rising.count(3, 1023), 1);
        }
    }

    private static void sumWithoutColumn() {
        about("13 sum: Illegal state: there is no column");
        refused("new", STATE, () -> new Counted().sum(LEAST, GREATEST));
        refused("a row", STATE, () -> rowOf(0).sum(0, 0));
        refused("a full row, none between", STATE, () -> filled(0, 0, FULL).sum(1, 0));
    }

    /** What is asked, each time: low, high, and the sum that is due. */
    private static void summed(long[] cells, long... asked) {
        for (int form : FORMS) {
            Counted x = columnOf(form, cells);
            x.clear();
            for (int i = 0; i < asked.length; i += 3) {
                due("sum(" + asked[i] + ", " + asked[i + 1] + ") of " + Arrays.toString(cells) + " in form " + form,
                        x.sum(asked[i], asked[i + 1]), asked[i + 2]);
            }
        }
    }

    private static void sumAtTheEdge() {
        about("13 sum: those cells of the column that are not less than low and not greater than high");
        long[] cells = {10, 20, 20, 30, -10};
        summed(cells, 10, 30, 80, 11, 30, 70, 10, 29, 50, 11, 29, 40, 20, 20, 40, 21, 29, 0, 9, 31, 80);
        summed(cells, 30, 10, 0, 20, 19, 0, GREATEST, LEAST, 0, LEAST, GREATEST, 70, LEAST, LEAST, 0, GREATEST, GREATEST, 0);
        summed(cells, -10, -10, -10, -9, 9, 0, LEAST, -10, -10, LEAST, -11, 0, 30, GREATEST, 30, 31, GREATEST, 0);
        summed(new long[] {LEAST, GREATEST, -1}, LEAST, LEAST, LEAST, GREATEST, GREATEST, GREATEST, LEAST + 1, -1, -1,
                0, GREATEST, GREATEST, LEAST, -1, GREATEST, LEAST, GREATEST - 1, GREATEST, LEAST + 1, GREATEST - 1, -1);
        summed(new long[] {-4}, -4, -4, -4, -3, 0, 0, -5, -5, 0);
    }

    private static void sumWraps() {
        about("13 sum: The sum .. (wrapping)");
        summed(new long[] {GREATEST, 1}, 0, GREATEST, LEAST);
        summed(new long[] {LEAST, -1}, LEAST, GREATEST, GREATEST);
        summed(new long[] {LEAST, LEAST}, LEAST, LEAST, 0);
        summed(new long[] {LEAST, LEAST, LEAST}, LEAST, 0, LEAST);
        summed(new long[] {GREATEST, GREATEST, 5, GREATEST}, 6, GREATEST, GREATEST - 2);
        for (int form : FORMS) {
            due("1024 of the greatest in form " + form, filledColumn(form, GREATEST, 0, FULL).sum(0, GREATEST), -1024);
            due("1024 of the least in form " + form, filledColumn(form, LEAST, 0, FULL).sum(LEAST, 0), 0);
            due("0 to 1023 in form " + form, filledColumn(form, 0, 1, FULL).sum(0, 1023), 523776);
            due("0 to 1022 in form " + form, filledColumn(form, 0, 1, FULL).sum(LEAST, 1022), 522753);
        }
    }

    private static void firstNamedExceptionIsThrown() {
        about("Terms: Of several exceptions the one named first is thrown");
        for (int n : new int[] {0, -1, 1025, LEAST_INT, GREATEST_INT}) {
            refused("fill of a full row, n " + n, ARGUMENT, () -> filled(1, 1, FULL).fill(1, 1, n));
            refused("fill of 1000 cells, n " + n, ARGUMENT, () -> filled(1, 1, 1000).fill(1, 1, n));
        }
        for (int form : new int[] {-1, 5, LEAST_INT, GREATEST_INT}) {
            refused("weight of an empty row, form " + form, ARGUMENT, () -> new Counted().weight(form));
            refused("writeAs of an empty row, form " + form, ARGUMENT, () -> new Counted().writeAs(form));
        }
        for (int kind : new int[] {-1, 4, LEAST_INT, GREATEST_INT}) {
            refused("count without a column, kind " + kind, ARGUMENT, () -> new Counted().count(kind, 1));
            refused("count with a row and no column, kind " + kind, ARGUMENT, () -> rowOf(1).count(kind, 1));
        }
    }
}
