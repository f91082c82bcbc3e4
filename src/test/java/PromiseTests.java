import java.lang.reflect.Constructor;
import java.lang.reflect.Field;
import java.lang.reflect.Method;
import java.lang.reflect.Modifier;
import java.util.Arrays;
import java.util.Set;
import java.util.TreeSet;

/** The face of the class, and for each promise ordinary inputs, some edges, and wrong inputs. */
public final class PromiseTests extends Check {
    public static void main(String[] args) {
        test(PromiseTests::face);
        test(PromiseTests::newObject);
        test(PromiseTests::put);
        test(PromiseTests::fill);
        test(PromiseTests::clear);
        test(PromiseTests::weight);
        test(PromiseTests::write);
        test(PromiseTests::writeAs);
        test(PromiseTests::bytesOfEachForm);
        test(PromiseTests::formAndSize);
        test(PromiseTests::byteAt);
        test(PromiseTests::cell);
        test(PromiseTests::count);
        test(PromiseTests::sum);
        end();
    }

    private static String names(Class<?>[] types) {
        StringBuilder text = new StringBuilder();
        for (Class<?> type : types) {
            text.append(text.length() == 0 ? "" : ", ").append(type.getSimpleName());
        }
        return text.toString();
    }

    private static void face() {
        about("The public face");
        String both = " throws " + ARGUMENT + ", " + STATE;
        Set<String> wanted = new TreeSet<>(Arrays.asList("public int put(long) throws " + STATE,
                "public int fill(long, long, int)" + both, "public int clear() throws ", "public int weight(int)" + both,
                "public int write() throws " + STATE, "public int writeAs(int)" + both, "public int form() throws ",
                "public int size() throws ", "public int byteAt(int) throws " + ARGUMENT,
                "public long cell(int) throws " + ARGUMENT, "public int count(int, long)" + both,
                "public long sum(long, long) throws " + STATE));
        Set<String> seen = new TreeSet<>();
        for (Method m : ColumnForms.class.getDeclaredMethods()) {
            if (!Modifier.isPrivate(m.getModifiers())) {
                seen.add(Modifier.toString(m.getModifiers()) + " " + m.getReturnType() + " " + m.getName()
                        + "(" + names(m.getParameterTypes()) + ") throws " + names(m.getExceptionTypes()));
            }
        }
        dueText("methods", seen.toString(), wanted.toString());
        Set<String> fields = new TreeSet<>();
        for (Field f : ColumnForms.class.getDeclaredFields()) {
            if (!Modifier.isPrivate(f.getModifiers())) {
                fields.add(Modifier.toString(f.getModifiers()) + " " + f.getType() + " " + f.getName());
            }
        }
        dueText("fields", fields.toString(), "[public static final int NONE]");
        due("NONE", ColumnForms.NONE, -1);
        Constructor<?>[] made = ColumnForms.class.getDeclaredConstructors();
        due("constructors", made.length, 1);
        dueText("the constructor", Modifier.toString(made[0].getModifiers()) + " (" + names(made[0].getParameterTypes())
                + ") throws " + names(made[0].getExceptionTypes()), "public () throws ");
        dueText("the class", Modifier.toString(ColumnForms.class.getModifiers()), "public final");
        for (Class<?> inside : ColumnForms.class.getDeclaredClasses()) {
            int hidden = inside.getModifiers() & (Modifier.PUBLIC | Modifier.PROTECTED | Modifier.STATIC);
            due("class " + inside.getSimpleName() + " is hidden and static", hidden, Modifier.STATIC);
        }
    }

    private static void newObject() {
        Counted x = new Counted();
        due("1 form", x.form(), -1);
        due("1 size", x.size(), 0);
        refused("1 byteAt", ARGUMENT, () -> x.byteAt(0));
        refused("1 cell", ARGUMENT, () -> x.cell(0));
        refused("1 count", STATE, () -> x.count(0, 0));
        refused("1 sum", STATE, () -> x.sum(0, 0));
        refused("1 write", STATE, () -> x.write());
        due("1 clear", x.clear(), 0);
    }

    private static void put() {
        Counted x = new Counted();
        for (int i = 1; i <= 300; i++) {
            due("2 put", x.put(i * 3L), i);
        }
        due("2 put behind fill", x.fill(5, 1, 723) + x.put(1), 1023 + 1024);
        refused("2 put into a full row", STATE, () -> x.put(0));
        due("2 clear of a full row", x.clear(), 1024);
        due("2 put behind clear", x.put(7), 1);
        rowIs("2", rowOf(Long.MAX_VALUE, -1, 0, Long.MIN_VALUE), Long.MAX_VALUE, -1, 0, Long.MIN_VALUE);
    }

    private static void fill() {
        Counted x = new Counted();
        due("3 fill", x.fill(10, -4, 3), 3);
        due("3 fill of one", x.fill(1, 99, 1), 4);
        due("3 fill that wraps", x.fill(Long.MAX_VALUE, 1, 2), 6);
        rowIs("3", x, 10, 6, 2, 1, Long.MAX_VALUE, Long.MIN_VALUE);
        refused("3 n 0", ARGUMENT, () -> x.fill(1, 1, 0));
        refused("3 n -1", ARGUMENT, () -> x.fill(1, 1, -1));
        refused("3 n 1025", ARGUMENT, () -> x.fill(1, 1, 1025));
        refused("3 n least", ARGUMENT, () -> x.fill(1, 1, Integer.MIN_VALUE));
        refused("3 n greatest", ARGUMENT, () -> x.fill(1, 1, Integer.MAX_VALUE));
        refused("3 one too many", STATE, () -> x.fill(1, 1, 1019));
        due("3 up to full", x.fill(1, 1, 1018), 1024);
        refused("3 full", STATE, () -> x.fill(1, 1, 1));
        refused("3 full and n 0", ARGUMENT, () -> x.fill(1, 1, 0));
        due("3 1024 at once", new Counted().fill(0, 0, 1024), 1024);
    }

    private static void clear() {
        Counted x = columnOf(PACKED, 4, 9, 4);
        due("4 clear", x.clear(), 3);
        due("4 clear again", x.clear(), 0);
        due("4 the column's form stays", x.form(), PACKED);
        due("4 the column's cells stay", x.cell(1), 9);
        refused("4 the row is empty", STATE, () -> x.weight(0));
        x.put(4);
        x.put(5);
        due("4 nothing of the earlier row weighs, packed", x.weight(PACKED), 10);
        due("4 nothing of the earlier row weighs, list", x.weight(LIST), 19);
        due("4 nothing of the earlier row weighs, runs", x.weight(RUNS), 22);
        due("4 nothing of the earlier row weighs, steps", x.weight(STEPS), 17);
        x.clear();
        x.put(9);
        x.put(4);
        x.writeAs(LIST);
        dueText("4 nothing of the earlier row is listed", hex(x), "0002" + "0000000000000004" + "0000000000000009" + "80");
        x.clear();
        x.put(9);
        x.writeAs(STEPS);
        dueText("4 no step of the earlier row is left", hex(x), "0000000000000009" + "0000000000000000" + "00");
    }

    private static void weighs(String what, Counted x, int... weights) {
        for (int form = 0; form < 5; form++) {
            due("5 " + what + " in form " + form, x.weight(form), weights[form]);
        }
    }

    private static void weight() {
        weighs("one cell", rowOf(77), 8, 9, 10, 12, 17);
        weighs("two the same", rowOf(-3, -3), 16, 9, 10, 12, 17);
        weighs("extremes", rowOf(Long.MIN_VALUE, Long.MAX_VALUE), 16, 25, 19, 22, 17);
        weighs("a step that wraps", rowOf(Long.MAX_VALUE, Long.MIN_VALUE, 0), 24, 33, 27, 32, 33);
        weighs("bits that fill a byte", rowOf(0, 1, 0, 1, 0, 1, 0, 1), 64, 10, 19, 82, 19);
        weighs("bits beyond a byte", rowOf(0, 1, 0, 1, 0, 1, 0, 1, 0), 72, 11, 20, 92, 19);
        weighs("steps beyond a byte", rowOf(0, 1, 0, 1, 0, 1, 0, 1, 0, 1), 80, 11, 20, 102, 20);
        weighs("four different", rowOf(1, 2, 3, 4), 32, 10, 35, 42, 17);
        weighs("five different", rowOf(1, 2, 3, 4, 5), 40, 11, 44, 52, 17);
        Counted full = new Counted();
        full.fill(0, 1, 1024);
        weighs("1024 different", full, 8192, 1289, 9474, 10242, 17);
        Counted x = rowOf(1);
        refused("5 form 5", ARGUMENT, () -> x.weight(5));
        refused("5 form -1", ARGUMENT, () -> x.weight(-1));
        refused("5 form greatest", ARGUMENT, () -> x.weight(Integer.MAX_VALUE));
        x.clear();
        refused("5 empty", STATE, () -> x.weight(4));
        refused("5 empty and form 5", ARGUMENT, () -> x.weight(5));
    }

    private static void writes(String what, Counted x, int form, int bytes) {
        due("6 " + what + ", bytes", x.write(), bytes);
        due("6 " + what + ", form", x.form(), form);
        due("6 " + what + ", size", x.size(), bytes);
    }

    private static Counted twoBlocks(long first, long second, int n) {
        Counted x = new Counted();
        x.fill(first, 0, n);
        x.fill(second, 0, n);
        return x;
    }

    private static void write() {
        long big = 1L << 60;
        writes("plain", rowOf(5), PLAIN, 8);
        writes("packed", rowOf(5, 5, 5, 9), PACKED, 11);
        writes("list", rowOf(0, big, 0, big, 0, big), LIST, 19);
        writes("runs", twoBlocks(0, big, 500), RUNS, 22);
        Counted rising = new Counted();
        rising.fill(0, 1000, 100);
        writes("steps", rising, STEPS, 17);
        due("6 the row stays", rising.put(1), 101);
        writes("plain and packed alike", rowOf(0, 1 << 27), PLAIN, 16);
        writes("packed and list alike", rowOf(0, 1000, 0, 1000, 0, 1000, 0, 1000), PACKED, 19);
        writes("packed and steps alike", rowOf(0, 700000, 1400000), PACKED, 17);
        writes("list and runs alike", twoBlocks(0, big, 16), LIST, 22);
        writes("the row with one cell more", rising, PACKED, 224);
        Counted x = columnOf(PLAIN, 1);
        x.clear();
        refused("6 empty", STATE, () -> x.write());
        due("6 the column is as it was", x.form(), PLAIN);
    }

    private static void writeAs() {
        Counted x = rowOf(5, 5, 5, 9);
        int[] weights = {32, 11, 19, 22, 19};
        for (int form = 4; form >= 0; form--) {
            due("7 writeAs " + form, x.writeAs(form), weights[form]);
            due("7 form behind writeAs " + form, x.form(), form);
            due("7 size behind writeAs " + form, x.size(), weights[form]);
        }
        due("7 the row stays", x.put(1), 5);
        refused("7 form 5", ARGUMENT, () -> x.writeAs(5));
        refused("7 form -1", ARGUMENT, () -> x.writeAs(-1));
        x.clear();
        refused("7 empty", STATE, () -> x.writeAs(0));
        refused("7 empty and form 5", ARGUMENT, () -> x.writeAs(5));
        due("7 the column is as it was", x.size(), 32);
    }

    private static void bytesAre(int form, String want, long... cells) {
        dueText("bytes in form " + form + " of " + Arrays.toString(cells), hex(columnOf(form, cells)), want.replace(" ", ""));
    }

    private static void bytesOfEachForm() {
        bytesAre(PLAIN, "0000000000000005 0000000000000005 0000000000000005 0000000000000009", 5, 5, 5, 9);
        bytesAre(PACKED, "0000000000000005 03 0040", 5, 5, 5, 9);
        bytesAre(LIST, "0002 0000000000000005 0000000000000009 10", 5, 5, 5, 9);
        bytesAre(RUNS, "0002 0000000000000005 0003 0000000000000009 0001", 5, 5, 5, 9);
        bytesAre(STEPS, "0000000000000005 0000000000000000 03 0200", 5, 5, 5, 9);

        bytesAre(PLAIN, "0123456789abcdef fffffffffffffffe", 0x0123456789abcdefL, -2);
        bytesAre(PACKED, "8000000000000000 40 0000000000000000 ffffffffffffffff", Long.MIN_VALUE, Long.MAX_VALUE);
        bytesAre(PACKED, "0000000000000000 3f 0000000000000001 0000000000000000", 0, 1L << 62);
        bytesAre(PACKED, "fffffffffffffffd 00", -3, -3, -3);
        bytesAre(LIST, "0003 0000000000000005 0000000000000007 0000000000000009 8600", 9, 5, 7, 9, 5);
        bytesAre(LIST, "0002 fffffffffffffffd 0000000000000005 a0", 5, -3, 5);
        bytesAre(LIST, "0004 8000000000000000 ffffffffffffffff 0000000000000000 7fffffffffffffff b1",
                0, Long.MAX_VALUE, Long.MIN_VALUE, -1);
        bytesAre(LIST, "0001 ffffffffffffffff", -1, -1, -1);
        bytesAre(RUNS, "0003 0000000000000001 0002 0000000000000002 0001 0000000000000001 0001", 1, 1, 2, 1);
        bytesAre(STEPS, "0000000000000003 fffffffffffffffe 02 30", 3, 1, 2);
        bytesAre(STEPS, "7fffffffffffffff 8000000000000000 40 8000000000000001 0000000000000000",
                Long.MAX_VALUE, Long.MIN_VALUE, 0);
        bytesAre(STEPS, "fffffffffffffffc 0000000000000000 00", -4);
        bytesAre(STEPS, "0000000000000004 0000000000000003 00", 4, 7, 10);

        fullListOfFallingCells();
        Counted x = columnOf(PLAIN, -1, -1, -1, -1);
        x.clear();
        x.put(0);
        x.put(1);
        x.writeAs(PACKED);
        dueText("no bits of the column before", hex(x), "0000000000000000" + "01" + "40");
    }

    private static void fullListOfFallingCells() {
        StringBuilder listed = new StringBuilder("0400");
        StringBuilder places = new StringBuilder();
        for (int i = 0; i < 1024; i++) {
            listed.append(String.format("%016x", i - 512L));
            places.append(Integer.toBinaryString(1024 + 1023 - i).substring(1));
        }
        for (int bit = 0; bit < places.length(); bit += 8) {
            listed.append(String.format("%02x", Integer.parseInt(places.substring(bit, bit + 8), 2)));
        }
        dueText("a full list of falling cells", hex(() -> filledColumn(LIST, 511, -1, 1024)), listed.toString());
    }

    private static void formAndSize() {
        Counted x = new Counted();
        x.put(3);
        due("8 none before the first write", x.form(), ColumnForms.NONE);
        due("9 none before the first write", x.size(), 0);
        x.write();
        due("8 form", x.form(), PLAIN);
        due("9 size", x.size(), 8);
        x.put(3);
        due("9 the row is not the column", x.size(), 8);
        x.write();
        due("8 form of the later column", x.form(), PACKED);
        due("9 size of the later column", x.size(), 9);
    }

    private static void byteAt() {
        Counted x = columnOf(PLAIN, 0x80ff7f0102030405L);
        int[] want = {0x80, 0xff, 0x7f, 1, 2, 3, 4, 5};
        for (int i = 0; i < 8; i++) {
            due("10 byte " + i, x.byteAt(i), want[i]);
        }
        refused("10 behind the last", ARGUMENT, () -> x.byteAt(8));
        refused("10 -1", ARGUMENT, () -> x.byteAt(-1));
        refused("10 least", ARGUMENT, () -> x.byteAt(Integer.MIN_VALUE));
        refused("10 greatest", ARGUMENT, () -> x.byteAt(Integer.MAX_VALUE));
        x.fill(0, 1, 3);
        x.writeAs(RUNS);
        due("10 last of the longer column", x.byteAt(41), 1);
        x.writeAs(PLAIN);
        refused("10 a byte of the longer column before", ARGUMENT, () -> x.byteAt(32));
    }

    private static void cell() {
        long[][] rows = {
            {0}, {Long.MIN_VALUE}, {-1, -1, -1}, {Long.MIN_VALUE, Long.MAX_VALUE, 0, -1, 1, Long.MAX_VALUE},
            {7, 7, 3, 3, 3, 7, -9, 12, 12}, {1, 2, 4, 8, 16, 32, 64, 128, 1L << 40}, {100, 90, 80, 70, 61},
        };
        for (long[] cells : rows) {
            for (int form = 0; form < 5; form++) {
                Counted x = columnOf(form, cells);
                x.clear();
                x.fill(55, 5, 20);
                for (int i = 0; i < cells.length; i++) {
                    due("11 cell " + i + " in form " + form + " of " + Arrays.toString(cells), x.cell(i), cells[i]);
                }
                refused("11 behind the last", ARGUMENT, () -> x.cell(cells.length));
                refused("11 -1", ARGUMENT, () -> x.cell(-1));
                refused("11 least", ARGUMENT, () -> x.cell(Integer.MIN_VALUE));
                refused("11 greatest", ARGUMENT, () -> x.cell(Integer.MAX_VALUE));
            }
        }
    }

    private static void count() {
        long least = Long.MIN_VALUE;
        long greatest = Long.MAX_VALUE;
        long[][] asked = {
            {0, 3, 2}, {0, 4, 0}, {0, -5, 2}, {1, 3, 3}, {1, least, 0}, {1, greatest, 7}, {2, 3, 2}, {2, greatest, 0},
            {2, least, 7}, {3, 0, 7}, {3, 3, 5}, {3, 8, 3}, {3, -1, 0}, {3, least, 2},
        };
        for (int form = 0; form < 5; form++) {
            Counted x = columnOf(form, -5, 0, 3, 3, 7, -5, 12);
            x.put(3);
            for (long[] a : asked) {
                due("12 count(" + a[0] + ", " + a[1] + ") in form " + form, x.count((int) a[0], a[1]), a[2]);
            }
            refused("12 kind -1", ARGUMENT, () -> x.count(-1, 0));
            refused("12 kind 4", ARGUMENT, () -> x.count(4, 0));
            refused("12 kind greatest", ARGUMENT, () -> x.count(Integer.MAX_VALUE, 0));
        }
        refused("12 no column", STATE, () -> rowOf(1).count(0, 1));
        refused("12 no column and kind 4", ARGUMENT, () -> rowOf(1).count(4, 1));
    }

    private static void sum() {
        long least = Long.MIN_VALUE;
        long greatest = Long.MAX_VALUE;
        long[][] asked = {
            {-5, 3, -4}, {3, 3, 6}, {4, 3, 0}, {greatest, least, 0}, {least, greatest, 15}, {12, 12, 12}, {13, greatest, 0},
            {least, -5, -10}, {-4, 2, 0}, {4, greatest, 19},
        };
        for (int form = 0; form < 5; form++) {
            Counted x = columnOf(form, -5, 0, 3, 3, 7, -5, 12);
            x.put(3);
            for (long[] a : asked) {
                due("13 sum(" + a[0] + ", " + a[1] + ") in form " + form, x.sum(a[0], a[1]), a[2]);
            }
            due("13 wraps in form " + form, columnOf(form, greatest, greatest, greatest).sum(0, greatest), greatest - 2);
            due("13 extremes in form " + form, columnOf(form, least, greatest, least).sum(least, greatest), greatest);
        }
        refused("13 no column", STATE, () -> rowOf(1).sum(0, 1));
    }
}
