import java.util.function.Consumer;
import java.util.function.Predicate;
import java.util.function.Supplier;
import java.util.function.ToLongFunction;

/**
 * The edges that the document names, one sentence a row: each row names its promise, and a call that
 * is refused is asked of two like objects, one of which must be the same as the other afterwards.
 */
final class Edge {
    private static final int PROMISES = 34;
    private final Due due;
    private final int[] rows = new int[PROMISES + 1];
    private int promise;
    private String heading = "";

    Edge(String name) {
        due = new Due(name);
    }

    /** The rows to come are of this promise. */
    void about(int number, String call) {
        promise = number;
        heading = "Promise " + number + ", " + call + ": ";
    }

    void is(String row, long got, long want) {
        rows[promise]++;
        due.is(heading + row, got, want);
    }

    void is(String row, boolean got, boolean want) {
        is(row, got ? 1 : 0, want ? 1 : 0);
    }

    void same(String row, String got, String want) {
        is(row + ", as it was", got.equals(want), true);
        if (!got.equals(want)) {
            System.out.println("  got  " + got + "\n  want " + want);
        }
    }

    /** Whatever its state, an object refuses this and does nothing. */
    void denies(String row, Predicate<GhostPane> call) {
        refuses(row, x -> call.test(x) ? 1 : 0, 0);
    }

    void refuses(String row, ToLongFunction<GhostPane> call, long answer) {
        refuses(row + " (a new object)", GhostPane::new, call, answer);
        refuses(row, Stage::full, call, answer);
    }

    void denies(String row, Supplier<GhostPane> stage, Predicate<GhostPane> call) {
        refuses(row, stage, x -> call.test(x) ? 1 : 0, 0);
    }

    void refuses(String row, Supplier<GhostPane> stage, ToLongFunction<GhostPane> call, long answer) {
        GhostPane asked = stage.get();
        is(row, call.applyAsLong(asked), answer);
        same(row, Readout.of(asked), Readout.of(stage.get()));
    }

    /** A question that is answered leaves all as it was. */
    void leaves(String row, Consumer<GhostPane> question) {
        GhostPane asked = Stage.full();
        question.accept(asked);
        same(row, Readout.of(asked), Readout.of(Stage.full()));
    }

    /** A text with its FAULT and the FAULT's place. */
    void fails(GhostPane x, String text, int fault, int place) {
        is("walk() of \"" + text + "\"", Due.walk(x, text), GhostPane.NONE);
        is("fault(0) of \"" + text + "\"", x.fault(0), fault);
        is("fault(1) of \"" + text + "\"", x.fault(1), place);
    }

    /** A text without a FAULT, and its last count. */
    void walks(GhostPane x, String text, int last) {
        is("walk() of \"" + text + "\"", Due.walk(x, text), last);
        is("fault(0) of \"" + text + "\"", x.fault(0), 0);
        is("fault(1) of \"" + text + "\"", x.fault(1), GhostPane.NONE);
    }

    void end() {
        for (int number = 1; number <= PROMISES; number++) {
            due.is("Promise " + number + " has rows", rows[number] > 0, true);
        }
        due.end();
    }
}
