/** Promise 9. */
public final class FitTest {
    private static final Checks CHECKS = new Checks("FitTest");
    private static final String NINES = "9".repeat(32);

    public static void main(String[] args) {
        fits("1.25", 2, 1, "1.3");
        fits("-1.25", 2, 1, "-1.3");
        fits("9.94", 2, 1, "9.9");
        refuses("9.95", 2, 1, -3);
        refuses("-9.95", 2, 1, -3);
        fits("1250", 1, -3, "1000");
        fits("9499", 1, -3, "9000");
        refuses("9500", 1, -3, -3);
        fits("0.0094", 1, 3, "0.009");
        refuses("0.0095", 1, 3, -3);
        fits("0.0004", 1, 3, "0.000");
        fits("-0.0004", 1, 3, "0.000");
        fits("9e-24", 1, 24, "0." + "0".repeat(23) + "9");
        refuses("10e-24", 1, 24, -3);
        refuses("1e-23", 1, 24, -3);
        fits("0", 1, 24, "0." + "0".repeat(24));
        fits(NINES, 56, 24, NINES + "." + "0".repeat(24));
        fits(NINES, 56, -32 + 32, NINES);
        refuses(NINES, 55, 24, -3);
        refuses(NINES, 56, -32, -3);
        refuses(NINES + ".5", 56, 0, -3);
        refuses("5e31", 56, -32, -3);
        fits("4e31", 1, -32, "0");
        fits("1e31", 1, -31, "1" + "0".repeat(31));
        fits("nan", 1, 0, "NaN");
        fits("nan", 56, -32, "NaN");
        refuses("inf", 56, 0, -3);
        refuses("-inf", 56, 24, -3);
        for (int bad : new int[] {0, -1, 57, Integer.MAX_VALUE, Integer.MIN_VALUE}) {
            refuses("1.5", bad, 0, -1);
            refuses("nan", bad, 0, -1);
            refuses("inf", bad, 0, -1);
        }
        for (int bad : new int[] {-33, 25, Integer.MAX_VALUE, Integer.MIN_VALUE}) {
            refuses("1.5", 10, bad, -1);
            refuses("nan", 10, bad, -1);
            refuses("-inf", 10, bad, -1);
        }
        for (int r : new int[] {-1, 8, Integer.MAX_VALUE, Integer.MIN_VALUE}) {
            CHECKS.same("register " + r, new ScaledNumeralDesk().fit(r, 5, 2), -1);
        }
        CHECKS.end();
    }

    private static void fits(String a, int precision, int scale, String text) {
        ScaledNumeralDesk desk = new ScaledNumeralDesk();
        String call = a + " to " + precision + ", " + scale;
        CHECKS.same("enter " + a, Checks.enter(desk, 7, a), 0);
        CHECKS.same(call, desk.fit(7, precision, scale), 0);
        CHECKS.same("text of " + call, Checks.text(desk, 7), text);
        CHECKS.same("scale of " + call, desk.scale(7), text.equals("NaN") ? -1 : Math.max(scale, 0));
    }

    private static void refuses(String a, int precision, int scale, int answer) {
        ScaledNumeralDesk desk = new ScaledNumeralDesk();
        String call = a + " to " + precision + ", " + scale;
        CHECKS.same("enter " + a, Checks.enter(desk, 7, a), 0);
        String text = Checks.text(desk, 7);
        CHECKS.same(call, desk.fit(7, precision, scale), answer);
        CHECKS.same("text after " + call, Checks.text(desk, 7), text);
    }
}
