import java.util.Map;
import java.util.function.ToIntFunction;

/** The boundary cases of sums, and of promises 11 to 17. */
public final class SumEdgesTest {
    private static final Edges EDGES = new Edges("SumEdgesTest");
    private static final String NINES = Edges.NINES;
    private static final String MOST = Edges.MOST;
    private static final String[] NAMES = {"accept", "discard", "merge", "reset", "count", "total", "average"};

    public static void main(String[] args) {
        noSumAndNoRegister();
        sumsAreApart();
        acceptAtTheLimit();
        acceptByKindAndScale();
        discardAtTheLimit();
        discardOfACountOfZero();
        discardOfAnotherValue();
        eitherAddsToTheSize();
        refusedAddsNothing();
        mergeAtTheLimit();
        mergeWithItself();
        mergeKeepsTheOther();
        resetIsAsAtFirst();
        countOfNone();
        resultOfNaN();
        resultOfInfinite();
        resultAtTheGreatestScale();
        resultIsRounded();
        totalAtACountOfZero();
        totalTooLarge();
        greatValuesAreKept();
        averageOfTheResult();
        averageAtItsEdges();
        EDGES.end();
    }

    private static Scene summed(String... texts) {
        return Scene.of(texts).then(desk -> {
            for (int r = 0; r < texts.length; r++) {
                desk.accept(0, r);
            }
        });
    }

    private static Scene sized(String text, int size) {
        return Scene.of(text).then(desk -> Scene.fill(desk, 0, 0, size));
    }

    private static void totalIs(Scene scene, String text) {
        EDGES.gives("total " + text, scene, desk -> desk.total(4, 0), 4, text);
    }

    private static void averageIs(Scene scene, String text) {
        EDGES.gives("average " + text, scene, desk -> desk.average(4, 0), 4, text);
    }

    /** What the state says about sum 0. */
    private static String sumAfter(Scene scene, ToIntFunction<ScaledNumeralDesk> calls) {
        return State.of(() -> Edges.after(scene, calls)).get("sum 0");
    }

    private static int call(ScaledNumeralDesk desk, int which, int k, int r) {
        switch (which) {
            case 0:
                return desk.accept(k, r);
            case 1:
                return desk.discard(k, r);
            case 2:
                return desk.merge(k, k);
            case 3:
                return desk.reset(k) ? 1 : 0;
            case 4:
                return desk.count(k);
            case 5:
                return desk.total(r, k);
            default:
                return desk.average(r, k);
        }
    }

    /** "-1 when there is no sum k", "no register r", "no register d"; "false when there is no sum k" */
    private static void noSumAndNoRegister() {
        for (int which = 0; which < NAMES.length; which++) {
            int w = which;
            for (int k : Edges.NO_SUM) {
                int due = which == 3 ? 0 : -1;
                EDGES.answers(NAMES[which] + " of sum " + k, Scene.of(), desk -> call(desk, w, k, 7), due);
                EDGES.answers(NAMES[which] + " of sum " + k, Scene.of(), desk -> call(desk, w, k, 8), due);
            }
            if (which < 2 || which > 4) {
                for (int r : Edges.NO_REGISTER) {
                    EDGES.answers(NAMES[which] + " with " + r, Scene.of(), desk -> call(desk, w, 3, r), -1);
                }
            }
        }
        for (int k : Edges.NO_SUM) {
            EDGES.answers("merge(0, " + k + ")", Scene.of(), desk -> desk.merge(0, k), -1);
            EDGES.answers("merge(" + k + ", 3)", Scene.of(), desk -> desk.merge(k, 3), -1);
        }
    }

    /** "SUMS are numbered 0 .. 3." */
    private static void sumsAreApart() {
        for (int k = 0; k < 4; k++) {
            int sum = k;
            String own = "sum " + k;
            EDGES.answers("accept in " + k, Scene.of("1.5"), desk -> desk.accept(sum, 0), 0, own);
            EDGES.answers("reset of " + k, Scene.of(), desk -> desk.reset(sum) ? 1 : 0, 1, own);
            EDGES.answers("merge to " + k, Scene.of(), desk -> desk.merge(sum, (sum + 1) % 4), 0, own);
            EDGES.answers("double " + k, Scene.of(), desk -> desk.merge(sum, sum), 0, own);
            EDGES.answers("count of " + k, Scene.of(), desk -> desk.count(sum), k == 0 ? 0 : 2);
            if (k > 0) {
                String one = new String[] {"", "1.9", "9.99", "1"}[k];
                EDGES.answers("discard in " + k, Scene.of(one), desk -> desk.discard(sum, 0), 0, own);
                EDGES.answers("total of " + k, Scene.of(), desk -> desk.total(5, sum), 0, "register 5");
                EDGES.answers("average of " + k, Scene.of(), desk -> desk.average(5, sum), 0, "register 5");
            }
        }
        for (int d = 0; d < 8; d++) {
            int to = d;
            EDGES.gives("total to " + d, Scene.of(), desk -> desk.total(to, 3), d, "3.875");
            EDGES.gives("average to " + d, Scene.of(), desk -> desk.average(to, 3), d, "1.9375000000000000");
        }
    }

    /** "-2 when the size of the sum is 1000" */
    private static void acceptAtTheLimit() {
        for (String text : new String[] {"1.5", "NaN", "inf", "-inf"}) {
            EDGES.answers("998", sized(text, 998), desk -> desk.accept(0, 0), 0, "sum 0");
            EDGES.answers("999", sized(text, 999), desk -> desk.accept(0, 0), 0, "sum 0");
            EDGES.answers("1000", sized(text, 1000), desk -> desk.accept(0, 0), -2);
            EDGES.answers("1000, another", sized(text, 1000), desk -> desk.accept(0, 7), -2);
        }
        ScaledNumeralDesk desk = sized("1.5", 999).get();
        EDGES.same("the last one", desk.accept(0, 0), 0);
        EDGES.same("count", desk.count(0), 1000);
        EDGES.same("one too many", desk.accept(0, 0), -2);
        EDGES.same("count", desk.count(0), 1000);
        EDGES.same("total", desk.total(1, 0), 0);
        EDGES.same("text", Checks.text(desk, 1), "1500.0");
        EDGES.same("the other sums have room", desk.accept(1, 0), 0);
    }

    /** "Accepting a numeral adds 1 to its count, and its value, if it is finite, to the value" */
    private static void acceptByKindAndScale() {
        for (int scale = 0; scale <= 24; scale++) {
            String one = "3e-" + scale;
            Scene scene = Scene.of(one);
            EDGES.same("count", Edges.after(scene, desk -> desk.accept(0, 0)).count(0), 1);
            totalIs(summed(one), Checks.text(scene.get(), 0));
            for (int other = 0; other <= 24; other++) {
                String another = "3e-" + other;
                int due = other == scale ? 0 : -6;
                Scene two = Scene.of(one, another).then(desk -> desk.accept(0, 0));
                EDGES.same(one + " and " + another, two.get().discard(0, 1), due);
            }
        }
        String[] kinds = {"NaN", "Infinity", "-Infinity", "0"};
        for (String kind : kinds) {
            for (String other : kinds) {
                Scene two = Scene.of(kind, other).then(desk -> desk.accept(0, 0));
                EDGES.same(kind + " and " + other, two.get().discard(0, 1), kind.equals(other) ? 0 : -6);
            }
            totalIs(summed(kind), kind);
        }
    }

    /** "-2 when the size of the sum is 1000, -6 when the count for it is 0" */
    private static void discardAtTheLimit() {
        for (String text : new String[] {"1.5", "NaN", "inf", "-inf"}) {
            EDGES.answers("999", sized(text, 999), desk -> desk.discard(0, 0), 0, "sum 0");
            EDGES.answers("1000", sized(text, 1000), desk -> desk.discard(0, 0), -2);
            EDGES.answers("1000, a count of 0", sized(text, 1000), desk -> desk.discard(0, 2), -2);
            EDGES.answers("999, a count of 0", sized(text, 999), desk -> desk.discard(0, 2), -6);
        }
        ScaledNumeralDesk desk = sized("1.5", 999).get();
        EDGES.same("the last one", desk.discard(0, 0), 0);
        EDGES.same("count", desk.count(0), 998);
        EDGES.same("one too many", desk.discard(0, 0), -2);
        EDGES.same("accept", desk.accept(0, 0), -2);
        EDGES.same("count", desk.count(0), 998);
    }

    /** "-6 when the count for it (NaN, PLUS, MINUS, or finite of this scale) is 0" */
    private static void discardOfACountOfZero() {
        String[] kinds = {"NaN", "Infinity", "-Infinity", "5", "5.0", "5e-24"};
        for (String kind : kinds) {
            EDGES.answers("discard " + kind, Scene.of(kind), desk -> desk.discard(0, 0), -6);
            Scene one = Scene.of(kind).then(desk -> desk.accept(0, 0));
            EDGES.answers("discard " + kind, one, desk -> desk.discard(0, 0), 0, "sum 0");
            Scene gone = Scene.of(kind).then(desk -> {
                desk.accept(0, 0);
                desk.discard(0, 0);
            });
            EDGES.answers("discard again " + kind, gone, desk -> desk.discard(0, 0), -6);
            for (String other : kinds) {
                if (!other.equals(kind)) {
                    Scene two = Scene.of(kind, other).then(desk -> desk.accept(0, 0));
                    EDGES.answers("discard " + other + " of " + kind, two, desk -> desk.discard(0, 1), -6);
                }
            }
        }
    }

    /** "it need not have accepted just that one" */
    private static void discardOfAnotherValue() {
        Scene scene = Scene.of("5.00", "-7.25", "1").then(desk -> {
            desk.accept(0, 0);
            desk.accept(0, 2);
        });
        EDGES.answers("discard -7.25", scene, desk -> desk.discard(0, 1), 0, "sum 0");
        ScaledNumeralDesk desk = scene.get();
        desk.discard(0, 1);
        EDGES.same("count", desk.count(0), 1);
        EDGES.same("total", desk.total(3, 0), 0);
        // 5.00 + 1 + 7.25 at the one scale that is left.
        EDGES.same("text", Checks.text(desk, 3), "13");
        EDGES.same("again", desk.discard(0, 1), -6);
        EDGES.same("discard 1", desk.discard(0, 2), 0);
        EDGES.same("count of none", desk.count(0), 0);
        EDGES.same("total of none", desk.total(3, 0), -6);
        EDGES.same("accept 5.00", desk.accept(0, 0), 0);
        EDGES.same("total", desk.total(3, 0), 0);
        // The value 12.25 was left over.
        EDGES.same("text", Checks.text(desk, 3), "17.25");
    }

    /** "either adds 1 to the size" */
    private static void eitherAddsToTheSize() {
        Scene scene = Scene.of("1.5").then(desk -> Scene.fill(desk, 1, 0, 997));
        // 997 and 3 calls are 1000: the sum of them merges; with 4 calls it doesn't.
        int[][] calls = {{1, 1, 1}, {1, 1, -1}, {1, -1, 1}, {1, 1, 1, 1}, {1, -1, 1, -1}, {1, 1, -1, -1}};
        for (int[] some : calls) {
            ScaledNumeralDesk desk = scene.get();
            for (int one : some) {
                EDGES.same("call", one > 0 ? desk.accept(0, 0) : desk.discard(0, 0), 0);
            }
            EDGES.same(some.length + " calls", desk.merge(1, 0), some.length == 3 ? 0 : -2);
        }
        for (String text : new String[] {"NaN", "inf", "-inf"}) {
            ScaledNumeralDesk desk = Scene.of(text).then(d -> Scene.fill(d, 1, 0, 998)).get();
            desk.accept(0, 0);
            EDGES.same("discard", desk.discard(0, 0), 0);
            EDGES.same("998 and 2", desk.merge(1, 0), 0);
            EDGES.same("1000", desk.accept(1, 0), -2);
        }
    }

    private static void refusedAddsNothing() {
        ScaledNumeralDesk desk = sized("1.5", 999).get();
        for (int i = 0; i < 3; i++) {
            EDGES.same("a count of 0", desk.discard(0, 2), -6);
            EDGES.same("no register", desk.accept(0, 8), -1);
            EDGES.same("no register", desk.discard(0, -1), -1);
            EDGES.same("too many", desk.merge(0, 1), -2);
            EDGES.same("too many", desk.merge(0, 0), -2);
        }
        EDGES.same("the last one", desk.accept(0, 0), 0);
        EDGES.same("count", desk.count(0), 1000);
        EDGES.same("full", desk.accept(0, 0), -2);
    }

    private static Scene twoSums(int k, int j) {
        return Scene.of("1.5", "-0.25").then(desk -> {
            Scene.fill(desk, 0, 0, k);
            Scene.fill(desk, 1, 1, j);
        });
    }

    /** "-2 when both sizes together are more than 1000" */
    private static void mergeAtTheLimit() {
        int[][] fitting = {{999, 1}, {1, 999}, {600, 400}, {500, 500}, {1000, 0}, {0, 1000}, {0, 0}, {512, 488}};
        for (int[] sizes : fitting) {
            String what = "merge " + sizes[0] + " and " + sizes[1];
            EDGES.answers(what, twoSums(sizes[0], sizes[1]), desk -> desk.merge(0, 1), 0, "sum 0");
            EDGES.same(what, Edges.after(twoSums(sizes[0], sizes[1]), desk -> desk.merge(0, 1)).count(0),
                    sizes[0] + sizes[1]);
        }
        int[][] beyond = {{1000, 1}, {1, 1000}, {999, 2}, {600, 401}, {501, 500}, {500, 501}, {1000, 1000}};
        for (int[] sizes : beyond) {
            String what = "merge " + sizes[0] + " and " + sizes[1];
            EDGES.answers(what, twoSums(sizes[0], sizes[1]), desk -> desk.merge(0, 1), -2);
        }
    }

    /** "j may be k: all of these double"; "of k with itself: twice its size" */
    private static void mergeWithItself() {
        EDGES.answers("500", sized("1.5", 500), desk -> desk.merge(0, 0), 0, "sum 0");
        EDGES.answers("501", sized("1.5", 501), desk -> desk.merge(0, 0), -2);
        EDGES.answers("1000", sized("1.5", 1000), desk -> desk.merge(0, 0), -2);
        EDGES.answers("none", Scene.of(), desk -> desk.merge(0, 0), 0);
        ScaledNumeralDesk desk = sized("-1.25", 500).get();
        desk.merge(0, 0);
        EDGES.same("count", desk.count(0), 1000);
        EDGES.same("full", desk.accept(0, 0), -2);
        EDGES.same("total", desk.total(1, 0), 0);
        EDGES.same("text", Checks.text(desk, 1), "-1250.00");

        // Doubling is the same as accepting and discarding all of it once more.
        Scene once = Scene.of("NaN", "inf", "-inf", "2.5", "-0.75", "9.25");
        ToIntFunction<ScaledNumeralDesk> some = d -> {
            for (int r = 0; r < 5; r++) {
                d.accept(0, r);
            }
            return d.discard(0, 5);
        };
        String twice = sumAfter(once, d -> some.applyAsInt(d) + some.applyAsInt(d));
        EDGES.same("doubled", sumAfter(once, d -> some.applyAsInt(d) + d.merge(0, 0)), twice);
    }

    /** "Value, size and every count of sum j are added to those of sum k (j stays)" */
    private static void mergeKeepsTheOther() {
        String[] texts = {"NaN", "inf", "-inf", "2.5", "-0.75", "9.25", "1e-24", "4"};
        Scene apart = Scene.of(texts).then(desk -> {
            desk.reset(1);
            for (int r = 0; r < 8; r++) {
                desk.accept(r % 2, r);
            }
            desk.discard(1, 1);
        });
        Scene together = Scene.of(texts).then(desk -> {
            for (int r = 0; r < 8; r++) {
                desk.accept(0, r);
            }
            desk.discard(0, 1);
        });
        EDGES.answers("merge", apart, desk -> desk.merge(0, 1), 0, "sum 0");
        EDGES.same("merged", sumAfter(apart, desk -> desk.merge(0, 1)), State.of(together).get("sum 0"));
        // What goes into one of them later does not go into the other.
        Scene merged = Scene.of("2.5").then(desk -> {
            desk.accept(0, 0);
            desk.merge(1, 0);
        });
        EDGES.answers("accept after", merged, desk -> desk.accept(0, 0), 0, "sum 0");
        EDGES.answers("accept after", merged, desk -> desk.accept(1, 0), 0, "sum 1");
        EDGES.answers("reset after", merged, desk -> desk.reset(0) ? 1 : 0, 1, "sum 0");
        EDGES.answers("reset after", merged, desk -> desk.reset(1) ? 1 : 0, 1, "sum 1");
    }

    /** "Sum k is as at first: true" */
    private static void resetIsAsAtFirst() {
        Map<String, String> first = State.of(Scene.of());
        String[][] filled = {{}, {"NaN"}, {"inf", "-inf"}, {"1.5", MOST, "1e-24"}, {"NaN", "inf", "-inf", "2"}};
        for (String[] texts : filled) {
            EDGES.answers("reset", summed(texts), desk -> desk.reset(0) ? 1 : 0, 1, "sum 0");
            EDGES.same("reset", sumAfter(summed(texts), desk -> desk.reset(0) ? 1 : 0), first.get("sum 0"));
        }
        EDGES.same("full", sumAfter(sized("1.5", 1000), desk -> desk.reset(0) ? 1 : 0), first.get("sum 0"));
        // Also a value that was left over is gone.
        Scene left = Scene.of("5", "3").then(desk -> {
            desk.accept(0, 0);
            desk.discard(0, 1);
        });
        EDGES.same("left over", sumAfter(left, desk -> desk.reset(0) ? 1 : 0), first.get("sum 0"));
    }

    /** "COUNT is the sum of them all" */
    private static void countOfNone() {
        EDGES.answers("none", Scene.of(), desk -> desk.count(0), 0);
        EDGES.answers("one", summed("0"), desk -> desk.count(0), 1);
        EDGES.answers("of each kind", summed("NaN", "inf", "-inf", "1", "1.0"), desk -> desk.count(0), 5);
        EDGES.answers("1000", sized("NaN", 1000), desk -> desk.count(0), 1000);
        Scene mixed = Scene.of("NaN", "inf", "-inf", "1", "1e-24").then(desk -> {
            for (int r = 0; r < 5; r++) {
                desk.accept(0, r);
                desk.accept(0, r);
                desk.discard(0, r);
            }
        });
        EDGES.answers("after discards", mixed, desk -> desk.count(0), 5);
    }

    /** "NaN if the count of NaN is not 0 or those of PLUS and MINUS both are not 0" */
    private static void resultOfNaN() {
        String[][] some = {
            {"NaN"}, {"NaN", "1.5"}, {"NaN", "inf"}, {"NaN", "-inf"}, {"inf", "-inf"}, {"-inf", "inf", "2"}};
        for (String[] texts : some) {
            totalIs(summed(texts), "NaN");
            averageIs(summed(texts), "NaN");
        }
        // Not NaN any more when what made it so is discarded.
        totalIs(Scene.of("1.5", "NaN").then(desk -> {
            desk.accept(0, 0);
            desk.accept(0, 1);
            desk.discard(0, 1);
        }), "1.5");
        totalIs(Scene.of("inf", "-inf").then(desk -> {
            desk.accept(0, 0);
            desk.accept(0, 1);
            desk.discard(0, 0);
        }), "-Infinity");
        totalIs(Scene.of("inf", "-inf").then(desk -> {
            desk.accept(0, 0);
            desk.accept(0, 1);
            desk.discard(0, 1);
        }), "Infinity");
        totalIs(Scene.of("NaN").then(desk -> {
            desk.accept(0, 0);
            desk.accept(0, 0);
            desk.discard(0, 0);
        }), "NaN");
    }

    /** "otherwise PLUS or MINUS if one of these is not 0" */
    private static void resultOfInfinite() {
        for (String infinite : new String[] {"Infinity", "-Infinity"}) {
            totalIs(summed(infinite), infinite);
            totalIs(summed(infinite, infinite), infinite);
            totalIs(summed("-" + MOST, infinite, MOST), infinite);
            totalIs(summed(MOST, MOST, infinite), infinite);
            averageIs(summed(infinite), infinite);
            averageIs(summed(infinite, "1.5", "2"), infinite);
            averageIs(summed(MOST, MOST, infinite), infinite);
        }
    }

    /** "the value, rounded at the greatest scale whose count is not 0, with that scale" */
    private static void resultAtTheGreatestScale() {
        totalIs(summed("1", "2.50", "3.5"), "7.00");
        totalIs(summed("1", "0e-24"), "1." + "0".repeat(24));
        totalIs(summed("0"), "0");
        totalIs(summed("1.5", "-1.5"), "0.0");
        totalIs(summed("1.5", "-2.25", "0.75"), "0.00");
        Scene discarded = Scene.of("1", "2.50").then(desk -> {
            desk.accept(0, 0);
            desk.accept(0, 1);
            desk.discard(0, 1);
        });
        totalIs(discarded, "1");
        for (int scale = 0; scale <= 24; scale++) {
            totalIs(summed("0", "0e-" + scale), scale == 0 ? "0" : "0." + "0".repeat(scale));
        }
    }

    private static Scene leftAtScaleZero(String whole, String in, String out) {
        return Scene.of(whole, in, out).then(desk -> {
            desk.accept(0, 0);
            desk.accept(0, 1);
            desk.discard(0, 2);
        });
    }

    /** "a whole multiple as it is, unless something else was discarded than had been accepted" */
    private static void resultIsRounded() {
        totalIs(leftAtScaleZero("2", "0.49", "0.00"), "2");
        totalIs(leftAtScaleZero("2", "0.50", "0.00"), "3");
        totalIs(leftAtScaleZero("-2", "-0.49", "0.00"), "-2");
        totalIs(leftAtScaleZero("-2", "-0.50", "0.00"), "-3");
        totalIs(leftAtScaleZero("0", "0.00", "0.49"), "0");
        totalIs(leftAtScaleZero("0", "0.00", "0.50"), "-1");
        // It is the result that is rounded, the value stays what it is.
        ScaledNumeralDesk desk = leftAtScaleZero("2", "0.50", "0.00").get();
        desk.enter(7);
        Scene.hold(desk, 7, "0.00");
        EDGES.same("total", desk.total(5, 0), 0);
        EDGES.same("text", Checks.text(desk, 5), "3");
        desk.accept(0, 7);
        EDGES.same("total", desk.total(5, 0), 0);
        EDGES.same("text", Checks.text(desk, 5), "2.50");
        averageIs(leftAtScaleZero("2", "0.50", "0.00"), "3.0000000000000000");
    }

    /** "-6 when the COUNT is 0" */
    private static void totalAtACountOfZero() {
        Scene emptied = Scene.of("1.5").then(desk -> {
            desk.accept(0, 0);
            desk.discard(0, 0);
        });
        Scene leftOver = Scene.of("5", "3").then(desk -> {
            desk.accept(0, 0);
            desk.discard(0, 1);
        });
        Scene tooMuchLeftOver = Scene.of(NINES, "-" + NINES).then(desk -> {
            desk.accept(0, 0);
            desk.discard(0, 1);
        });
        for (Scene scene : new Scene[] {Scene.of(), emptied, leftOver, tooMuchLeftOver}) {
            EDGES.answers("total of none", scene, desk -> desk.total(4, 0), -6);
            EDGES.answers("average of none", scene, desk -> desk.average(4, 0), -6);
        }
        totalIs(summed("0"), "0");
        averageIs(summed("0"), "0." + "0".repeat(20));
    }

    /** "-3 when it is TOO LARGE"; "-3 when the RESULT is TOO LARGE" */
    private static void totalTooLarge() {
        for (String sign : new String[] {"", "-"}) {
            totalIs(summed(sign + MOST), sign + MOST);
            totalIs(summed(sign + NINES, sign + "0." + "9".repeat(24)), sign + MOST);
            averageIs(summed(sign + MOST), sign + MOST);
            String[][] some = {
                {sign + MOST, sign + Edges.TINY}, {sign + NINES, sign + "1"}, {sign + MOST, sign + MOST}};
            for (String[] texts : some) {
                EDGES.answers("total", summed(texts), desk -> desk.total(4, 0), -3);
                EDGES.answers("average", summed(texts), desk -> desk.average(4, 0), -3);
            }
            // What is not TOO LARGE before it is rounded can be so afterwards.
            Scene below = leftAtScaleZero(sign + NINES, sign + "0.49", "0.00");
            Scene above = leftAtScaleZero(sign + NINES, sign + "0.50", "0.00");
            totalIs(below, sign + NINES);
            EDGES.answers("total", above, desk -> desk.total(4, 0), -3);
            EDGES.answers("average", above, desk -> desk.average(4, 0), -3);
        }
    }

    private static void greatValuesAreKept() {
        for (String sign : new String[] {"", "-"}) {
            String other = sign.isEmpty() ? "-" : "";
            // 1000 of the greatest, or of the least there are.
            EDGES.answers("total", sized(sign + MOST, 1000), desk -> desk.total(4, 0), -3);
            Scene back = Scene.of(sign + MOST, other + MOST).then(desk -> {
                Scene.fill(desk, 0, 0, 500);
                Scene.fill(desk, 1, 1, 499);
                desk.merge(0, 1);
            });
            totalIs(back, sign + MOST);
            // A value of 1000 times the greatest, without any count of finite ones that tells it.
            Scene discarded = Scene.of(sign + MOST, other + MOST).then(desk -> {
                desk.accept(0, 0);
                desk.discard(0, 1);
                for (int i = 0; i < 8; i++) {
                    desk.merge(0, 0);
                }
            });
            EDGES.answers("total", discarded, desk -> desk.total(4, 0), -6);
            ScaledNumeralDesk desk = discarded.get();
            EDGES.same("accept", desk.accept(0, 0), 0);
            EDGES.same("total", desk.total(4, 0), -3);
        }
    }

    /** "when that is finite what DIVIDE makes of it (with its scale) and of the COUNT with scale 0" */
    private static void averageOfTheResult() {
        averageIs(summed("1", "2"), "1.5000000000000000");
        averageIs(summed("1", "1"), "1.00000000000000000000");
        averageIs(summed("3"), "3.0000000000000000");
        averageIs(summed("1"), "1.00000000000000000000");
        averageIs(summed("1", "-1"), "0." + "0".repeat(20));
        averageIs(summed("1", "1", "0"), "0.66666666666666666667");
        averageIs(summed("-1", "-1", "0"), "-0.66666666666666666667");
        averageIs(summed("3", "0e-18"), "1.5" + "0".repeat(17));
        averageIs(summed("5e-24", "0", "0"), "0." + "0".repeat(23) + "2");
        averageIs(summed("4e-24", "0", "0"), "0." + "0".repeat(23) + "1");
        averageIs(summed("1e-24", "0"), "0." + "0".repeat(23) + "1");
        averageIs(summed("-1e-24", "0"), "-0." + "0".repeat(23) + "1");
        averageIs(summed("1e-24", "0", "0"), Edges.ZERO24);
    }

    private static void averageAtItsEdges() {
        averageIs(sized("1.5", 1000), "1.5000000000000000");
        averageIs(sized("0.001", 1000), "0.00100000000000000000");
        averageIs(summed(NINES, "0"), "5" + "0".repeat(31));
        averageIs(summed(NINES, "0.0"), "4" + "9".repeat(31) + ".5");
        averageIs(summed(MOST, "-" + MOST), Edges.ZERO24);
        // The COUNT, not the size, divides.
        Scene discarded = Scene.of("6", "9").then(desk -> {
            desk.accept(0, 0);
            desk.accept(0, 0);
            desk.accept(0, 1);
            desk.discard(0, 1);
        });
        averageIs(discarded, "6.0000000000000000");
    }
}
