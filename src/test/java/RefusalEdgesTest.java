import java.util.function.ToIntFunction;

/**
 * "A call that is refused (its answer is negative, or false) changes nothing, except where it says so. Where a call
 * lists several refusals, the first one that holds is the answer."
 */
public final class RefusalEdgesTest {
    private static final Edges EDGES = new Edges("RefusalEdgesTest");
    private static final String MOST = Edges.MOST;

    public static void main(String[] args) {
        applyOfNoOperation();
        applyOfNoRegister();
        adjustOfNoOperation();
        adjustOfNoRegister();
        orderInEnter();
        orderInApply();
        orderInAdjust();
        orderInFit();
        orderInAccept();
        orderInDiscard();
        orderInMerge();
        orderInTotalAndAverage();
        refusedAgainAndAgain();
        EDGES.end();
    }

    private static void refuses(String what, Scene scene, ToIntFunction<ScaledNumeralDesk> call, int answer) {
        EDGES.answers(what, scene, call, answer);
    }

    /** "-1 when op is not 0 .. 5" */
    private static void applyOfNoOperation() {
        for (int op : new int[] {-1, 6, 7, Integer.MAX_VALUE, Integer.MIN_VALUE}) {
            refuses("apply " + op, Scene.of("3", "2"), desk -> desk.apply(op, 2, 0, 1), -1);
        }
        String[] texts = {"5", "1", "6", "1.5000000000000000", "1", "1"};
        for (int op = 0; op <= 5; op++) {
            EDGES.applyGives(op, "3", "2", texts[op]);
        }
    }

    /** "or there is no register d, a or b" */
    private static void applyOfNoRegister() {
        for (int op = 0; op <= 5; op++) {
            int o = op;
            for (int r : Edges.NO_REGISTER) {
                Scene scene = Scene.of("3", "2");
                refuses("apply to " + r, scene, desk -> desk.apply(o, r, 0, 1), -1);
                refuses("apply on a " + r, scene, desk -> desk.apply(o, 2, r, 1), -1);
                refuses("apply on b " + r, scene, desk -> desk.apply(o, 2, 0, r), -1);
            }
        }
        for (int r = 0; r < 8; r++) {
            int d = r;
            EDGES.gives("apply to " + r, Scene.of("3", "2"), desk -> desk.apply(1, d, 0, 1), r, "1");
        }
        for (int r = 1; r < 8; r++) {
            int other = r;
            Scene scene = Scene.of("9.5").then(desk -> Scene.hold(desk, other, "2.25"));
            EDGES.gives("apply on a " + r, scene, desk -> desk.apply(1, 0, other, 0), 0, "-7.25");
            EDGES.gives("apply on b " + r, scene, desk -> desk.apply(1, 0, 0, other), 0, "7.25");
        }
    }

    /** "-1 when op is not 0 .. 6" */
    private static void adjustOfNoOperation() {
        for (int op : new int[] {-1, 7, 8, Integer.MAX_VALUE, Integer.MIN_VALUE}) {
            refuses("adjust " + op, Scene.of("2.250"), desk -> desk.adjust(op, 2, 0, 1), -1);
        }
        String[] texts = {"2.3", "2.2", "3", "2", "-2.250", "2.25", "1.5000000000000000"};
        for (int op = 0; op <= 6; op++) {
            EDGES.adjustGives(op, "2.250", 1, texts[op]);
        }
    }

    /** "or there is no register d or a" */
    private static void adjustOfNoRegister() {
        for (int op = 0; op <= 6; op++) {
            int o = op;
            for (int r : Edges.NO_REGISTER) {
                refuses("adjust to " + r, Scene.of("2.250"), desk -> desk.adjust(o, r, 0, 1), -1);
                refuses("adjust of " + r, Scene.of("2.250"), desk -> desk.adjust(o, 2, r, 1), -1);
            }
        }
        for (int r = 1; r < 8; r++) {
            int other = r;
            Scene scene = Scene.of("9.5").then(desk -> Scene.hold(desk, other, "2.25"));
            EDGES.gives("adjust to " + r, scene, desk -> desk.adjust(4, other, 0, 0), r, "-9.5");
            EDGES.gives("adjust of " + r, scene, desk -> desk.adjust(4, 0, other, 0), 0, "-2.25");
        }
    }

    private static void orderInEnter() {
        for (int r : Edges.NO_REGISTER) {
            refuses("-1 before -2", Scene.of().typed("1e"), desk -> desk.enter(r), -1);
            refuses("-1 before -3", Scene.of().typed("1e32"), desk -> desk.enter(r), -1);
        }
        EDGES.enterRefuses("1e32e", -2);
        EDGES.enterRefuses("1e32", -3);
    }

    private static void orderInApply() {
        for (int op = 3; op <= 5; op++) {
            int o = op;
            Scene byZero = Scene.of("3", "0.0");
            refuses("-1 for d before -4", byZero, desk -> desk.apply(o, 8, 0, 1), -1);
            refuses("-1 for a before -4", byZero, desk -> desk.apply(o, 2, -1, 1), -1);
            refuses("-4", byZero, desk -> desk.apply(o, 2, 0, 1), -4);
        }
        Scene great = Scene.of(MOST, MOST);
        refuses("-1 for op before -3", great, desk -> desk.apply(6, 2, 0, 1), -1);
        for (int op = 0; op <= 2; op += 2) {
            int o = op;
            refuses("-1 for d before -3", great, desk -> desk.apply(o, 8, 0, 1), -1);
            refuses("-3", great, desk -> desk.apply(o, 2, 0, 1), -3);
        }
        refuses("-4, not -3", Scene.of(MOST, "0"), desk -> desk.apply(3, 2, 0, 1), -4);
        refuses("-4, not -3", Scene.of(MOST, "0"), desk -> desk.apply(4, 2, 0, 1), -4);
    }

    private static void orderInAdjust() {
        for (String below : new String[] {"-1", "-inf", "-" + MOST}) {
            refuses("-1 for d before -5", Scene.of(below), desk -> desk.adjust(6, 8, 0, 0), -1);
            refuses("-5", Scene.of(below), desk -> desk.adjust(6, 2, 0, 0), -5);
        }
        refuses("-1 for op before -5", Scene.of("-1"), desk -> desk.adjust(7, 2, 0, 0), -1);
        for (int op : new int[] {0, 2}) {
            refuses("-1 for d before -3", Scene.of(MOST), desk -> desk.adjust(op, -1, 0, 0), -1);
            refuses("-3", Scene.of(MOST), desk -> desk.adjust(op, 2, 0, 0), -3);
        }
        refuses("-3", Scene.of("-" + MOST), desk -> desk.adjust(3, 2, 0, 0), -3);
    }

    private static void orderInFit() {
        for (String a : new String[] {"inf", "-inf", MOST, "100"}) {
            refuses("-1 for precision before -3", Scene.of(a), desk -> desk.fit(0, 0, 0), -1);
            refuses("-1 for scale before -3", Scene.of(a), desk -> desk.fit(0, 1, 25), -1);
            refuses("-1 for scale before -3", Scene.of(a), desk -> desk.fit(0, 1, -33), -1);
            refuses("-3", Scene.of(a), desk -> desk.fit(0, 1, 0), -3);
        }
        for (int r : Edges.NO_REGISTER) {
            refuses("no register, no precision", Scene.of(), desk -> desk.fit(r, 57, 25), -1);
        }
    }

    private static Scene full() {
        return Scene.of("1.5", "nan").then(desk -> Scene.fill(desk, 0, 0, 1000));
    }

    private static void orderInAccept() {
        for (int r : Edges.NO_REGISTER) {
            refuses("-1 before -2", full(), desk -> desk.accept(0, r), -1);
        }
        refuses("-2", full(), desk -> desk.accept(0, 0), -2);
    }

    private static void orderInDiscard() {
        for (int r : Edges.NO_REGISTER) {
            refuses("-1 before -2", full(), desk -> desk.discard(0, r), -1);
            refuses("-1 before -6", Scene.of(), desk -> desk.discard(0, r), -1);
        }
        for (int k : Edges.NO_SUM) {
            refuses("-1 before -6", Scene.of(), desk -> desk.discard(k, 0), -1);
        }
        refuses("-2 before -6", full(), desk -> desk.discard(0, 1), -2);
        refuses("-2", full(), desk -> desk.discard(0, 0), -2);
        refuses("-6", Scene.of("1.5"), desk -> desk.discard(0, 0), -6);
    }

    private static void orderInMerge() {
        for (int k : Edges.NO_SUM) {
            refuses("-1 for j before -2", full(), desk -> desk.merge(0, k), -1);
            refuses("-1 for k before -2", full(), desk -> desk.merge(k, 0), -1);
        }
        refuses("-2", full(), desk -> desk.merge(0, 1), -2);
    }

    private static void orderInTotalAndAverage() {
        Scene tooLarge = Scene.of(MOST).then(desk -> Scene.fill(desk, 0, 0, 2));
        Scene none = Scene.of(MOST, "-" + MOST).then(desk -> {
            desk.accept(0, 0);
            desk.discard(0, 1);
        });
        for (int d : Edges.NO_REGISTER) {
            refuses("-1 before -6", Scene.of(), desk -> desk.total(d, 0), -1);
            refuses("-1 before -6", Scene.of(), desk -> desk.average(d, 0), -1);
            refuses("-1 before -3", tooLarge, desk -> desk.total(d, 0), -1);
            refuses("-1 before -3", tooLarge, desk -> desk.average(d, 0), -1);
        }
        refuses("-6 before -3", none, desk -> desk.total(2, 0), -6);
        refuses("-6 before -3", none, desk -> desk.average(2, 0), -6);
        refuses("-3", tooLarge, desk -> desk.total(2, 0), -3);
        refuses("-3", tooLarge, desk -> desk.average(2, 0), -3);
    }

    /** Many refused calls one after another change no more than one. */
    private static void refusedAgainAndAgain() {
        Scene scene = Scene.of(MOST, "0.0", "-1.5").then(desk -> {
            Scene.fill(desk, 0, 0, 1000);
            desk.enter(3);
        });
        refuses("all of them", scene, desk -> {
            int answers = 0;
            for (int i = 0; i < 2; i++) {
                answers += desk.enter(8) + desk.length(8) + desk.character(0, 99) + desk.scale(6);
                answers += desk.apply(0, 3, 0, 0) + desk.apply(3, 0, 0, 1) + desk.apply(9, 0, 0, 0);
                answers += desk.adjust(6, 0, 2, 0) + desk.adjust(2, 0, 0, 0) + desk.adjust(7, 0, 0, 0);
                answers += desk.fit(0, 1, 0) + desk.fit(0, 57, 0) + desk.compare(0, 8);
                answers += desk.accept(0, 0) + desk.accept(4, 0) + desk.discard(0, 0) + desk.discard(3, 6);
                answers += desk.merge(0, 1) + desk.merge(4, 0) + desk.count(4) + desk.total(1, 0) + desk.average(1, 0);
                answers += desk.reset(4) || desk.type('\n') ? 1000 : 0;
            }
            return answers;
        }, 2 * (-4 - 3 - 4 - 1 - 5 - 3 - 1 - 3 - 1 - 2 - 2 - 1 - 2 - 6 - 2 - 1 - 1 - 3 - 3));
    }
}
