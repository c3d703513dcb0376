import java.util.ArrayList;
import java.util.List;
import java.util.function.ToIntFunction;

/** What a call answers and makes depends on registers, sums and buffer alone, not on what was worked out before. */
public final class SequenceTest {
    private static final Edges EDGES = new Edges("SequenceTest");
    private static final String[] VALUES = {Edges.MOST, Edges.TINY, "-7.25", "inf", "nan", "0.00", "30001"};
    // Every call here writes to this register, and none looks at it.
    private static final int TO = 7;

    private final List<String> names = new ArrayList<>();
    private final List<ToIntFunction<ScaledNumeralDesk>> calls = new ArrayList<>();

    public static void main(String[] args) {
        new SequenceTest().everyPair();
        refusedBetweenTwoOthers();
        EDGES.end();
    }

    private void call(String name, ToIntFunction<ScaledNumeralDesk> call) {
        names.add(name);
        calls.add(call);
    }

    private void makeCalls() {
        for (int a = 0; a < VALUES.length; a++) {
            int x = a;
            for (int op = 0; op <= 5; op++) {
                int o = op;
                for (int b = 0; b < VALUES.length; b++) {
                    int y = b;
                    call("apply " + op + " of " + VALUES[a] + ", " + VALUES[b], desk -> desk.apply(o, TO, x, y));
                }
            }
            for (int op = 0; op <= 6; op++) {
                int o = op;
                call("adjust " + op + " of " + VALUES[a], desk -> desk.adjust(o, TO, x, 1));
            }
        }
        for (int k = 0; k < 4; k++) {
            int sum = k;
            call("total of " + k, desk -> desk.total(TO, sum));
            call("average of " + k, desk -> desk.average(TO, sum));
        }
    }

    private static Scene scene() {
        return Scene.of(VALUES);
    }

    private void everyPair() {
        makeCalls();
        for (int second = 0; second < calls.size(); second++) {
            String due = outcome(scene().get(), calls.get(second));
            for (int first = 0; first < calls.size(); first++) {
                ScaledNumeralDesk desk = scene().get();
                calls.get(first).applyAsInt(desk);
                EDGES.same(names.get(second) + " after " + names.get(first), outcome(desk, calls.get(second)), due);
            }
        }
    }

    /** The answer, and what the register holds if that is another text than before or the call was not refused. */
    private static String outcome(ScaledNumeralDesk desk, ToIntFunction<ScaledNumeralDesk> call) {
        String before = Checks.text(desk, TO) + " scale " + desk.scale(TO);
        int answer = call.applyAsInt(desk);
        String after = Checks.text(desk, TO) + " scale " + desk.scale(TO);
        return answer < 0 && after.equals(before) ? "refused with " + answer : answer + " " + after;
    }

    /** "A call that is refused changes nothing", seen from the calls behind it. */
    private static void refusedBetweenTwoOthers() {
        ScaledNumeralDesk desk = scene().get();
        desk.enter(TO);
        EDGES.same("divide", desk.apply(3, TO, 2, 6), 0);
        String text = Checks.text(desk, TO);
        EDGES.same("too large", desk.apply(2, TO, 0, 6), -3);
        EDGES.same("by zero", desk.apply(3, TO, 6, 5), -4);
        EDGES.same("outside", desk.adjust(6, TO, 2, 0), -5);
        EDGES.same("no text", Checks.enter(desk, TO, "1e"), -2);
        EDGES.same("too large a text", Checks.enter(desk, TO, "1e40"), -3);
        EDGES.same("does not fit", desk.fit(TO, 1, 24), -3);
        EDGES.same("none", desk.total(TO, 0), -6);
        EDGES.same("text", Checks.text(desk, TO), text);
        EDGES.same("divide", desk.apply(3, TO, 2, 6), 0);
        EDGES.same("text", Checks.text(desk, TO), text);
    }
}
