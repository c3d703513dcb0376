import java.util.Arrays;
import java.util.List;
import java.util.Map;
import java.util.function.Supplier;
import java.util.function.ToIntFunction;

/** Checks of one call at a time: its answer, what it changes, and that it changes nothing else. */
final class Edges {
    static final String NINES = "9".repeat(32);
    /** The greatest value there is. */
    static final String MOST = NINES + "." + "9".repeat(24);
    /** The least value above 0. */
    static final String TINY = "0." + "0".repeat(23) + "1";
    static final String ZERO24 = "0." + "0".repeat(24);
    static final int[] NO_REGISTER = {-1, 8, 9, Integer.MAX_VALUE, Integer.MIN_VALUE};
    static final int[] NO_SUM = {-1, 4, 5, Integer.MAX_VALUE, Integer.MIN_VALUE};

    private final Checks checks;

    Edges(String name) {
        checks = new Checks(name);
    }

    void end() {
        checks.end();
    }

    void same(String what, Object got, Object due) {
        checks.same(what, got, due);
    }

    /** The call answers so, and what is not named (register 3, sum 0, buffer) is as it was. */
    void answers(String what, Supplier<ScaledNumeralDesk> scene, ToIntFunction<ScaledNumeralDesk> call, int answer,
            String... mayChange) {
        List<String> changing = Arrays.asList(mayChange);
        checks.same(what, call.applyAsInt(scene.get()), answer);
        Map<String, String> before = State.of(scene);
        Map<String, String> after = State.of(() -> after(scene, call));
        for (String part : before.keySet()) {
            if (!changing.contains(part)) {
                checks.same(part + " after " + what, after.get(part), before.get(part));
            }
        }
    }

    /** The call answers 0, register d has this text and the scale that the text shows, and all else is as it was. */
    void gives(String what, Supplier<ScaledNumeralDesk> scene, ToIntFunction<ScaledNumeralDesk> call, int d,
            String text, String... mayChange) {
        String[] changing = Arrays.copyOf(mayChange, mayChange.length + 1);
        changing[mayChange.length] = "register " + d;
        answers(what, scene, call, 0, changing);
        ScaledNumeralDesk desk = after(scene, call);
        checks.same("text after " + what, Checks.text(desk, d), text);
        checks.same("scale after " + what, desk.scale(d), scaleOf(text));
        valueIsThatOfTheText(what, desk, d, text);
    }

    /** A value could have places that its text doesn't show: it is compared with what the text is read as. */
    private void valueIsThatOfTheText(String what, ScaledNumeralDesk desk, int d, String text) {
        int other = (d + 1) % 8;
        desk.enter(other);
        Scene.hold(desk, other, text);
        checks.same("value and text after " + what, desk.compare(d, other), 0);
    }

    void applyGives(int op, String a, String b, String text) {
        gives(nameOf("apply", op, a, b), Scene.of(a, b), desk -> desk.apply(op, 2, 0, 1), 2, text);
    }

    void applyRefuses(int op, String a, String b, int answer) {
        answers(nameOf("apply", op, a, b), Scene.of(a, b), desk -> desk.apply(op, 2, 0, 1), answer);
    }

    void adjustGives(int op, String a, int n, String text) {
        gives(nameOf("adjust", op, a, n), Scene.of(a), desk -> desk.adjust(op, 2, 0, n), 2, text);
    }

    void adjustRefuses(int op, String a, int n, int answer) {
        answers(nameOf("adjust", op, a, n), Scene.of(a), desk -> desk.adjust(op, 2, 0, n), answer);
    }

    void enterGives(String typed, String text) {
        gives("enter of '" + typed + "'", Scene.of().typed(typed), desk -> desk.enter(2), 2, text, "buffer");
        emptiesTheBuffer(typed);
    }

    void enterRefuses(String typed, int answer) {
        answers("enter of '" + typed + "'", Scene.of().typed(typed), desk -> desk.enter(2), answer, "buffer");
        emptiesTheBuffer(typed);
    }

    private void emptiesTheBuffer(String typed) {
        Map<String, String> empty = State.of(Scene.of().typed(""));
        Map<String, String> after = State.of(() -> after(Scene.of("0", "1", "2").typed(typed), desk -> desk.enter(2)));
        checks.same("buffer after enter of '" + typed + "'", after.get("buffer"), empty.get("buffer"));
    }

    void fitGives(String a, int precision, int scale, String text) {
        gives(nameOf("fit", precision, a, scale), Scene.of(a), desk -> desk.fit(0, precision, scale), 0, text);
    }

    void fitRefuses(String a, int precision, int scale, int answer) {
        answers(nameOf("fit", precision, a, scale), Scene.of(a), desk -> desk.fit(0, precision, scale), answer);
    }

    /** The scale that a text shows; -1 for those that are not finite. */
    static int scaleOf(String text) {
        if (text.equals("NaN") || text.endsWith("Infinity")) {
            return -1;
        }
        int point = text.indexOf('.');
        return point < 0 ? 0 : text.length() - point - 1;
    }

    private static String nameOf(String call, int op, Object a, Object b) {
        return call + " " + op + " of " + a + " and " + b;
    }

    static ScaledNumeralDesk after(Supplier<ScaledNumeralDesk> scene, ToIntFunction<ScaledNumeralDesk> call) {
        ScaledNumeralDesk desk = scene.get();
        call.applyAsInt(desk);
        return desk;
    }
}
