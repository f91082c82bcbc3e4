import java.util.ArrayList;
import java.util.List;
import java.util.function.Consumer;
import java.util.function.Supplier;
import java.util.function.ToLongFunction;

/**
 * "A call that throws changes nothing": in many states each call that is refused is made, and then all that can be
 * asked of the object is compared with the answers of one that is in the same state and had no such call.
 */
public final class RefusedCalls extends Check {
    private static final long WILD = 0x9e3779b97f4a7c15L;
    private static final int[] BELOW_AND_ABOVE = {Integer.MIN_VALUE, -1, Integer.MAX_VALUE};
    // How much is asked of one object beside the calls that bring it into its state.
    private static final int ASKED_OF_ONE = 400;

    /** How an object comes into a state, and how many cells its row and its column have then. */
    private static final class State {
        final String name;
        final int row;
        final int column;
        final Consumer<Counted> calls;

        State(String name, int row, int column, Consumer<Counted> calls) {
            this.name = name;
            this.row = row;
            this.column = column;
            this.calls = calls;
        }

        Counted made() {
            Counted x = new Counted();
            calls.accept(x);
            return x;
        }
    }

    private static final class Refusal {
        final String name;
        final String exception;
        final ToLongFunction<Counted> call;

        Refusal(String name, String exception, ToLongFunction<Counted> call) {
            this.name = name;
            this.exception = exception;
            this.call = call;
        }
    }

    private static List<State> states() {
        List<State> all = new ArrayList<>();
        all.add(new State("new", 0, 0, x -> { }));
        all.add(new State("cleared, no column", 0, 0, x -> {
            x.fill(WILD, WILD, 30);
            x.clear();
        }));
        all.add(new State("one cell, no column", 1, 0, x -> x.put(LEAST)));
        all.add(new State("five cells, no column", 5, 0, x -> x.fill(GREATEST, 1, 5)));
        all.add(new State("1023 cells, no column", 1023, 0, x -> x.fill(WILD, WILD, 1023)));
        all.add(new State("full, no column", FULL, 0, x -> x.fill(WILD, WILD, FULL)));
        for (int form : FORMS) {
            String column = ", column in form " + form;
            all.add(new State("cleared" + column, 0, 6, x -> {
                columnOfSix(x, form);
                x.clear();
            }));
            all.add(new State("the same row" + column, 6, 6, x -> columnOfSix(x, form)));
            all.add(new State("another row" + column, 3, 6, x -> {
                columnOfSix(x, form);
                x.clear();
                x.fill(-2, LEAST, 3);
            }));
            all.add(new State("full of other cells" + column, FULL, 6, x -> {
                columnOfSix(x, form);
                x.fill(7, -3, FULL - 6);
            }));
        }
        all.add(new State("full, with the longest column", FULL, FULL, x -> {
            x.fill(5, WILD, FULL);
            x.writeAs(RUNS);
        }));
        return all;
    }

    private static void columnOfSix(Counted x, int form) {
        x.fill(40, -7, 3);
        x.put(LEAST);
        x.fill(GREATEST, 0, 2);
        x.writeAs(form);
    }

    private static void add(List<Refusal> all, String name, String exception, ToLongFunction<Counted> call) {
        all.add(new Refusal(name, exception, call));
    }

    private static List<Refusal> refusals(State state, int bytes) {
        List<Refusal> all = new ArrayList<>();
        for (int off : BELOW_AND_ABOVE) {
            refusedArguments(all, off, off, off, off, off);
        }
        refusedArguments(all, 0, 5, 4, bytes, state.column);
        add(all, "fill(1, 1, 1025)", ARGUMENT, x -> x.fill(1, 1, 1025));
        if (state.row > 0) {
            int tooMany = FULL + 1 - state.row;
            add(all, "fill(-9, 4, " + tooMany + ")", STATE, x -> x.fill(-9, 4, tooMany));
            add(all, "fill(-9, 4, 1024)", STATE, x -> x.fill(-9, 4, FULL));
        }
        if (state.row == FULL) {
            add(all, "put(-9)", STATE, x -> x.put(-9));
        }
        if (state.row == 0) {
            refusedForEmptyRow(all);
        }
        if (state.column == 0) {
            refusedWithoutColumn(all);
        }
        return all;
    }

    private static void refusedArguments(List<Refusal> all, int n, int form, int kind, int aByte, int aCell) {
        add(all, "fill(1, 1, " + n + ")", ARGUMENT, x -> x.fill(1, 1, n));
        add(all, "weight(" + form + ")", ARGUMENT, x -> x.weight(form));
        add(all, "writeAs(" + form + ")", ARGUMENT, x -> x.writeAs(form));
        add(all, "count(" + kind + ", 1)", ARGUMENT, x -> x.count(kind, 1));
        add(all, "byteAt(" + aByte + ")", ARGUMENT, x -> x.byteAt(aByte));
        add(all, "cell(" + aCell + ")", ARGUMENT, x -> x.cell(aCell));
    }

    private static void refusedForEmptyRow(List<Refusal> all) {
        add(all, "write()", STATE, x -> x.write());
        for (int form : FORMS) {
            add(all, "weight(" + form + ")", STATE, x -> x.weight(form));
            add(all, "writeAs(" + form + ")", STATE, x -> x.writeAs(form));
        }
    }

    private static void refusedWithoutColumn(List<Refusal> all) {
        for (int kind = 0; kind < 4; kind++) {
            int asked = kind;
            add(all, "count(" + kind + ", 0)", STATE, x -> x.count(asked, 0));
        }
        add(all, "sum(0, 9)", STATE, x -> x.sum(0, 9));
    }

    /** All that can be asked by calls that change nothing, up to the first byte and cell that there is none of. */
    private static List<ToLongFunction<Counted>> questions(int bytes, int cells) {
        List<ToLongFunction<Counted>> all = new ArrayList<>();
        all.add(x -> x.form());
        all.add(x -> x.size());
        for (int form : FORMS) {
            all.add(x -> x.weight(form));
        }
        for (int kind = 0; kind < 4; kind++) {
            int asked = kind;
            all.add(x -> x.count(asked, 3));
        }
        all.add(x -> x.sum(LEAST, GREATEST));
        for (int i = 0; i <= bytes; i++) {
            int at = i;
            all.add(x -> x.byteAt(at));
        }
        for (int i = 0; i <= cells; i++) {
            int at = i;
            all.add(x -> x.cell(at));
        }
        return all;
    }

    /** What can be asked of the row only by calls that change the object; each is asked of an object of its own. */
    private static List<ToLongFunction<Counted>> lastQuestions() {
        List<ToLongFunction<Counted>> all = new ArrayList<>();
        all.add(x -> x.put(1));
        all.add(x -> x.clear());
        all.add(x -> x.write());
        return all;
    }

    private static List<String> answers(State state, Refusal refusal, int bytes) {
        List<String> all = new ArrayList<>();
        askInTurn(all, () -> refusedIn(state, refusal), questions(bytes, state.column));
        for (ToLongFunction<Counted> question : lastQuestions()) {
            askInTurn(all, () -> refusedIn(state, refusal), List.of(question));
        }
        if (state.row > 0) {
            for (int form : FORMS) {
                askInTurn(all, () -> writtenThen(state, refusal, form), cellsOfRow(state.row));
            }
        }
        return all;
    }

    private static List<ToLongFunction<Counted>> cellsOfRow(int cells) {
        List<ToLongFunction<Counted>> all = new ArrayList<>();
        all.add(x -> x.size());
        for (int i = 0; i <= cells; i++) {
            int at = i;
            all.add(x -> x.cell(at));
        }
        return all;
    }

    private static Counted refusedIn(State state, Refusal refusal) {
        Counted x = state.made();
        if (refusal != null) {
            refused(state.name + ", " + refusal.name, refusal.exception, () -> refusal.call.applyAsLong(x));
        }
        return x;
    }

    private static Counted writtenThen(State state, Refusal refusal, int form) {
        Counted x = refusedIn(state, refusal);
        x.writeAs(form);
        return x;
    }

    private static void askInTurn(List<String> all, Supplier<Counted> made,
            List<ToLongFunction<Counted>> questions) {
        Counted x = made.get();
        for (int i = 0; i < questions.size(); i++) {
            if (i % ASKED_OF_ONE == ASKED_OF_ONE - 1) {
                x = made.get();
            }
            Counted asked = x;
            ToLongFunction<Counted> question = questions.get(i);
            all.add(answerOf(() -> question.applyAsLong(asked)));
        }
    }

    private static void nothingChanges(State state) {
        about("Terms: a call that throws changes nothing");
        int bytes = state.made().size();
        List<String> before = answers(state, null, bytes);
        for (Refusal refusal : refusals(state, bytes)) {
            List<String> behind = answers(state, refusal, bytes);
            for (int i = 0; i < before.size(); i++) {
                dueText(state.name + ", question " + i + " behind " + refusal.name, behind.get(i), before.get(i));
            }
        }
    }

    public static void main(String[] args) {
        for (State state : states()) {
            test(() -> nothingChanges(state));
        }
        end();
    }
}
