/**
 * Promises 1 to 17 on many runs of calls, each answer and each register compared with the model's.
 * The runs are the same each time: the numbers come from a fixed rule, not from a random source. A run ends before
 * the 512th call of its desk, and so as not to spend them all on texts, a long text is looked at in some places only.
 */
public final class ModelTest {
    private static final Checks CHECKS = new Checks("ModelTest");
    private static final int RUNS = 12000;
    private static final int MOST_CALLS = 512;
    // The most that one step can need: 80 characters, one call and its count, and two looks at a register.
    private static final int STEP_CALLS = 80 + 2 + 2 * 16;
    private static final String[] ODD = {
        "nan", "NaN", "-nan", "inf", "-inf", "+Infinity", "-INFINITY", "", ".", "-", "1e", "e1", "1..", " 1", "1e99",
        "0e999", "0e-999", "-0.0", "1e31", "-1e31", "5e31", "1e32", "1e-24", "5e-25", "4.9e-25", "-1e-24", "1e-9",
        "99999999999999999999999999999999", "-99999999999999999999999999999999.5", "9999", "10000", "0.0001", "1.000",
        "99999999999999999999999999999999.999999999999999999999999", "0.9999", "9999.9999", "4", "100000000", "16e-20",
        "99999999999999999999999999999999.9999999999999999999999995", "0.5", "-0.5", "2.5", "1e8", "1e4", "1e-4", "1x"};

    private long state;
    private ScaledNumeralDesk desk;
    private Model model;
    private int calls;

    public static void main(String[] args) {
        for (int run = 0; run < RUNS; run++) {
            new ModelTest().run(run);
        }
        CHECKS.end();
    }

    private void run(int seed) {
        state = seed * 7919L + 12345;
        desk = new ScaledNumeralDesk();
        model = new Model();
        for (int step = 0; calls + STEP_CALLS <= MOST_CALLS; step++) {
            step("run " + seed + " step " + step + " ");
        }
    }

    private int below(int n) {
        state = state * 6364136223846793005L + 1442695040888963407L;
        return (int) ((state >>> 33) % n);
    }

    /** Mostly one of the n numbers from 0, now and then one beside them. */
    private int nearly(int n) {
        if (below(60) > 0) {
            return below(n);
        }
        int[] beside = {-1, n, Integer.MAX_VALUE, Integer.MIN_VALUE};
        return beside[below(4)];
    }

    private void step(String at) {
        calls++;
        int choice = below(20);
        if (choice < 6) {
            enter(at);
        } else if (choice < 11) {
            int op = nearly(6);
            int d = nearly(8);
            int a = nearly(8);
            int b = nearly(8);
            String call = at + "apply(" + op + ", " + d + ", " + a + ", " + b + ")";
            CHECKS.same(call, desk.apply(op, d, a, b), model.apply(op, d, a, b));
            show(call, d);
        } else if (choice < 13) {
            int op = nearly(7);
            int d = nearly(8);
            int a = nearly(8);
            int n = below(20) == 0 ? nearly(1) : below(64) - 36;
            String call = at + "adjust(" + op + ", " + d + ", " + a + ", " + n + ")";
            CHECKS.same(call, desk.adjust(op, d, a, n), model.adjust(op, d, a, n));
            show(call, d);
        } else if (choice < 14) {
            int r = nearly(8);
            int precision = below(58);
            int scale = below(60) - 34;
            String call = at + "fit(" + r + ", " + precision + ", " + scale + ")";
            CHECKS.same(call, desk.fit(r, precision, scale), model.fit(r, precision, scale));
            show(call, r);
        } else if (choice < 15) {
            int a = nearly(8);
            int b = nearly(8);
            CHECKS.same(at + "compare(" + a + ", " + b + ")", desk.compare(a, b), model.compare(a, b));
        } else {
            sums(at);
        }
    }

    private void sums(String at) {
        int k = nearly(4);
        int r = nearly(8);
        int choice = below(16);
        String call = at + "sum call " + choice + " of " + k + " with " + r;
        if (choice < 5) {
            CHECKS.same(call, desk.accept(k, r), model.accept(k, r));
        } else if (choice < 8) {
            CHECKS.same(call, desk.discard(k, r), model.discard(k, r));
        } else if (choice < 11) {
            int j = nearly(4);
            CHECKS.same(call, desk.merge(k, j), model.merge(k, j));
        } else if (choice == 11 && below(4) == 0) {
            CHECKS.same(call, desk.reset(k), model.reset(k));
        } else if (choice < 14) {
            CHECKS.same(call, desk.total(r, k), model.total(r, k));
        } else {
            CHECKS.same(call, desk.average(r, k), model.average(r, k));
        }
        calls++;
        CHECKS.same(call + " count", desk.count(k), model.count(k));
        show(call, r);
    }

    private void enter(String at) {
        String text = below(4) == 0 ? ODD[below(ODD.length)] : numeral();
        if (below(25) == 0) {
            text = spoiled(text);
        }
        boolean typed = true;
        for (int i = 0; i < text.length(); i++) {
            typed &= desk.type(text.charAt(i)) == model.type(text.charAt(i));
        }
        calls += text.length();
        CHECKS.same(at + "type " + text, typed, true);
        int r = nearly(8);
        CHECKS.same(at + "enter '" + text + "'", desk.enter(r), model.enter(r));
        show(at + "enter '" + text + "'", r);
    }

    private String numeral() {
        StringBuilder text = new StringBuilder(new String[] {"", "", "-", "+"}[below(4)]);
        int longest = below(3) == 0 ? 34 : 9;
        digits(text, below(longest));
        if (below(3) > 0) {
            text.append('.');
            digits(text, below(below(3) == 0 ? 30 : 6));
        }
        if (below(4) == 0) {
            text.append(below(2) == 0 ? 'e' : 'E').append(below(2) == 0 ? "-" : "").append(below(26));
        }
        return text.toString();
    }

    private void digits(StringBuilder text, int n) {
        int manner = below(5);
        for (int i = 0; i < n; i++) {
            int digit = manner == 0 ? 9 : manner == 1 ? (i == 0 ? 1 : 0) : below(10);
            text.append((char) ('0' + digit));
        }
    }

    private String spoiled(String text) {
        int place = below(text.length() + 1);
        String strange = "+-.eE 0x9N\t\u007fi5";
        return text.substring(0, place) + strange.charAt(below(strange.length())) + text.substring(place);
    }

    private void show(String call, int r) {
        if (r < 0 || r > 7) {
            return;
        }
        look("text after " + call, r);
        int beside = below(8);
        look("text of " + beside + " after " + call, beside);
    }

    private void look(String what, int r) {
        String text = model.text(r);
        CHECKS.same("length of " + what, desk.length(r), text.length());
        CHECKS.same("scale of " + what, desk.scale(r), model.scale(r));
        calls += 2;
        int places = Math.min(text.length() + 1, 14);
        int first = below(text.length() + 2 - places);
        for (int i = first; i < first + places; i++) {
            int due = i < text.length() ? text.charAt(i) : -1;
            CHECKS.same("character " + i + " of " + what, desk.character(r, i), due);
            calls++;
        }
    }
}
