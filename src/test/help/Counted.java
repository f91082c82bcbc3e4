/** An object of the class whose calls are counted: behind the 512th nothing is promised, so no test may ask there. */
final class Counted {
    static final int MOST_CALLS = 512;

    private final ColumnForms object = new ColumnForms();
    private int calls = 0;

    private ColumnForms next() {
        calls++;
        if (calls > MOST_CALLS) {
            throw new AssertionError("this test calls an object more than 512 times");
        }
        return object;
    }

    int put(long v) {
        return next().put(v);
    }

    int fill(long from, long step, int n) {
        return next().fill(from, step, n);
    }

    int clear() {
        return next().clear();
    }

    int weight(int form) {
        return next().weight(form);
    }

    int write() {
        return next().write();
    }

    int writeAs(int form) {
        return next().writeAs(form);
    }

    int form() {
        return next().form();
    }

    int size() {
        return next().size();
    }

    int byteAt(int i) {
        return next().byteAt(i);
    }

    long cell(int i) {
        return next().cell(i);
    }

    int count(int kind, long x) {
        return next().count(kind, x);
    }

    long sum(long low, long high) {
        return next().sum(low, high);
    }
}
