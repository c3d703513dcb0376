/** Promise 8. */
public final class AdjustTest {
    private static final Checks CHECKS = new Checks("AdjustTest");
    private static final String NINES = "9".repeat(32);

    public static void main(String[] args) {
        rounds();
        truncates();
        wholes();
        negatesAndTrims();
        roots();
        others();
        registers();
        CHECKS.end();
    }

    private static void gives(int op, String a, int n, String text) {
        ScaledNumeralDesk desk = new ScaledNumeralDesk();
        String call = "op " + op + " of " + a + " and " + n;
        CHECKS.same("enter " + a, Checks.enter(desk, 0, a), 0);
        CHECKS.same(call, desk.adjust(op, 1, 0, n), 0);
        CHECKS.same("text of " + call, Checks.text(desk, 1), text);
        int point = text.indexOf('.');
        int scale = point < 0 ? 0 : text.length() - point - 1;
        CHECKS.same("scale of " + call, desk.scale(1), text.endsWith("y") || text.endsWith("N") ? -1 : scale);
    }

    private static void refuses(int op, String a, int n, int answer) {
        ScaledNumeralDesk desk = new ScaledNumeralDesk();
        String call = "op " + op + " of " + a + " and " + n;
        CHECKS.same("enter " + a, Checks.enter(desk, 0, a), 0);
        Checks.enter(desk, 1, "6.5");
        CHECKS.same(call, desk.adjust(op, 1, 0, n), answer);
        CHECKS.same("register after " + call, Checks.text(desk, 1), "6.5");
    }

    private static void rounds() {
        gives(0, "2.5", 0, "3");
        gives(0, "-2.5", 0, "-3");
        gives(0, "2.49", 0, "2");
        gives(0, "-0.4", 0, "0");
        gives(0, "1.2345", 2, "1.23");
        gives(0, "1.2355", 3, "1.236");
        gives(0, "1.5", 3, "1.500");
        gives(0, "1.5", 24, "1.5" + "0".repeat(23));
        gives(0, "1.5", 25, "1.5" + "0".repeat(23));
        gives(0, "1.5", Integer.MAX_VALUE, "1.5" + "0".repeat(23));
        gives(0, "1250", -2, "1300");
        gives(0, "-1249.99", -2, "-1200");
        gives(0, "49", -2, "0");
        gives(0, "50", -2, "100");
        gives(0, "50.0", -3, "0");
        gives(0, "49999999999999999999999999999999", -32, "0");
        refuses(0, "5e31", -32, -3);
        refuses(0, "-5e31", -33, -3);
        refuses(0, "5e31", Integer.MIN_VALUE, -3);
        gives(0, "4e31", Integer.MIN_VALUE, "0");
        refuses(0, NINES + ".5", 0, -3);
        refuses(0, NINES, -1, -3);
        gives(0, NINES + ".4", 0, NINES);
    }

    private static void truncates() {
        gives(1, "2.9", 0, "2");
        gives(1, "-2.9", 0, "-2");
        gives(1, "-0.9", 0, "0");
        gives(1, "1.2399", 2, "1.23");
        gives(1, "1.5", 3, "1.500");
        gives(1, "1.5", 100, "1.5" + "0".repeat(23));
        gives(1, "1999", -3, "1000");
        gives(1, NINES, -31, "9" + "0".repeat(31));
        gives(1, NINES, -32, "0");
        gives(1, "-" + NINES, Integer.MIN_VALUE, "0");
    }

    private static void wholes() {
        gives(2, "2.1", 0, "3");
        gives(2, "-2.1", 0, "-2");
        gives(2, "-0.9", 0, "0");
        gives(2, "2.000", 0, "2");
        gives(2, "0." + "0".repeat(23) + "1", 7, "1");
        gives(3, "2.1", 0, "2");
        gives(3, "-2.1", 0, "-3");
        gives(3, "-0.9", 0, "-1");
        gives(3, "0.9", 0, "0");
        gives(3, "-2.000", 0, "-2");
        refuses(2, NINES + ".01", 0, -3);
        refuses(3, "-" + NINES + ".01", 0, -3);
        gives(2, "-" + NINES + ".01", 0, "-" + NINES);
        gives(3, NINES + ".01", 0, NINES);
    }

    private static void negatesAndTrims() {
        gives(4, "2.10", 0, "-2.10");
        gives(4, "-2.10", Integer.MIN_VALUE, "2.10");
        gives(4, "0.00", 0, "0.00");
        gives(5, "2.10", 0, "2.1");
        gives(5, "-200.00", 9, "-200");
        gives(5, "0.00", 0, "0");
        gives(5, "100", 0, "100");
        gives(5, "1.0001", 0, "1.0001");
        gives(5, "1e-24", 0, "0." + "0".repeat(23) + "1");
        gives(5, "1." + "0".repeat(24), 0, "1");
    }

    private static void roots() {
        gives(6, "2", 0, "1.4142135623730950");
        gives(6, "3", 0, "1.7320508075688773");
        gives(6, "0", 0, "0." + "0".repeat(16));
        gives(6, "0." + "0".repeat(18), 0, "0." + "0".repeat(18));
        gives(6, "4", 0, "2." + "0".repeat(16));
        gives(6, "10000", 0, "100." + "0".repeat(14));
        gives(6, "0.0001", 0, "0.01" + "0".repeat(16));
        gives(6, "1e-24", 0, "0." + "0".repeat(11) + "1" + "0".repeat(12));
        gives(6, "1e30", 0, "1" + "0".repeat(15) + ".00");
        gives(6, NINES, 0, "1" + "0".repeat(16) + ".00");
        gives(6, "2." + "0".repeat(24), 0, "1.414213562373095048801689");
        gives(6, "9801e28", 0, "9900000000000000.00");
        gives(6, "25000001", 0, "5000.00009999999900");
        gives(6, "0.2500001", 0, "0.500000099999990000");
        refuses(6, "-1", 0, -5);
        refuses(6, "-1e-24", 0, -5);
        refuses(6, "-inf", 0, -5);
    }

    private static void others() {
        for (int op = 0; op <= 6; op++) {
            gives(op, "nan", op - 3, "NaN");
            if (op != 4) {
                gives(op, "inf", op - 3, "Infinity");
            }
            if (op < 4 || op == 5) {
                gives(op, "-inf", op - 3, "-Infinity");
            }
        }
        gives(4, "inf", 0, "-Infinity");
        gives(4, "-inf", 0, "Infinity");
    }

    private static void registers() {
        ScaledNumeralDesk desk = new ScaledNumeralDesk();
        Checks.enter(desk, 0, "-9.75");
        for (int w : new int[] {-1, 8, Integer.MAX_VALUE, Integer.MIN_VALUE}) {
            CHECKS.same("d " + w, desk.adjust(6, w, 0, 0), -1);
            CHECKS.same("a " + w, desk.adjust(6, 1, w, 0), -1);
            CHECKS.same("op " + w, desk.adjust(w, 1, 0, 0), -1);
        }
        CHECKS.same("op 7", desk.adjust(7, 1, 0, 0), -1);
        CHECKS.same("onto itself", desk.adjust(4, 0, 0, 0), 0);
        CHECKS.same("text", Checks.text(desk, 0), "9.75");
        for (int d = 1; d < 8; d++) {
            CHECKS.same("to " + d, desk.adjust(3, d, 0, 0), 0);
            CHECKS.same("text", Checks.text(desk, d), "9");
        }
        CHECKS.same("a stays", Checks.text(desk, 0), "9.75");
    }
}
