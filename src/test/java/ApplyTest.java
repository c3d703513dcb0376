/** Promise 7. */
public final class ApplyTest {
    private static final Checks CHECKS = new Checks("ApplyTest");
    private static final String NINES = "9".repeat(32);
    private static final String TINY = "0." + "0".repeat(23) + "1";

    public static void main(String[] args) {
        sums();
        products();
        divisions();
        quotients();
        remainders();
        infinities();
        registers();
        CHECKS.end();
    }

    private static void gives(int op, String a, String b, String text) {
        ScaledNumeralDesk desk = entered(a, b);
        String call = "op " + op + " of " + a + " and " + b;
        CHECKS.same(call, desk.apply(op, 2, 0, 1), 0);
        CHECKS.same("text of " + call, Checks.text(desk, 2), text);
        int point = text.indexOf('.');
        int scale = point < 0 ? 0 : text.length() - point - 1;
        CHECKS.same("scale of " + call, desk.scale(2), text.endsWith("y") || text.endsWith("N") ? -1 : scale);
    }

    private static void refuses(int op, String a, String b, int answer) {
        ScaledNumeralDesk desk = entered(a, b);
        String call = "op " + op + " of " + a + " and " + b;
        Checks.enter(desk, 2, "6.5");
        CHECKS.same(call, desk.apply(op, 2, 0, 1), answer);
        CHECKS.same("register after " + call, Checks.text(desk, 2), "6.5");
    }

    private static ScaledNumeralDesk entered(String a, String b) {
        ScaledNumeralDesk desk = new ScaledNumeralDesk();
        CHECKS.same("enter " + a, Checks.enter(desk, 0, a), 0);
        CHECKS.same("enter " + b, Checks.enter(desk, 1, b), 0);
        return desk;
    }

    private static void sums() {
        gives(0, "1.5", "2.25", "3.75");
        gives(0, "1.500", "-1.5", "0.000");
        gives(0, "-1.5", "0.25", "-1.25");
        gives(0, "1", "-2.0", "-1.0");
        gives(0, "9999.9999", "0.0001", "10000.0000");
        gives(1, "1", "2", "-1");
        gives(1, "-1", "-1.00", "0.00");
        gives(1, "10000000000000000", "0." + "0".repeat(23) + "1", "9999999999999999." + "9".repeat(24));
        gives(0, NINES, "0.9", NINES + ".9");
        refuses(0, NINES, "1", -3);
        refuses(0, NINES + ".9", "0.1", -3);
        refuses(1, "-" + NINES, "1", -3);
        refuses(0, NINES, NINES, -3);
        gives(0, "-" + NINES, NINES, "0");
    }

    private static void products() {
        gives(2, "1.5", "2.25", "3.375");
        gives(2, "-1.50", "2", "-3.00");
        gives(2, "-1.50", "0.0", "0.000");
        gives(2, "1e-12", "1e-12", TINY);
        gives(2, "5e-13", "1e-12", TINY);
        gives(2, "-5e-13", "1e-12", "-" + TINY);
        gives(2, "-4e-13", "1e-12", "0." + "0".repeat(24));
        gives(2, "1e16", "1e15", "1" + "0".repeat(31));
        refuses(2, "1e16", "1e16", -3);
        refuses(2, NINES, "-" + NINES, -3);
        gives(2, "9999999999999999", "9999999999999999", "99999999999999980000000000000001");
        refuses(2, NINES + "." + "9".repeat(24), "1." + "0".repeat(23) + "1", -3);
        gives(2, NINES + "." + "9".repeat(24), "1." + "0".repeat(24), NINES + "." + "9".repeat(24));
    }

    private static void divisions() {
        gives(3, "1", "3", "0.33333333333333333333");
        gives(3, "2", "3", "0.66666666666666666667");
        gives(3, "-2", "3", "-0.66666666666666666667");
        gives(3, "3", "2", "1.5000000000000000");
        gives(3, "2", "2", "1.00000000000000000000");
        gives(3, "10000", "3", "3333.3333333333333333");
        gives(3, "40000", "3", "13333.333333333333");
        gives(3, "0", "7", "0." + "0".repeat(20));
        gives(3, "0", "70000", "0." + "0".repeat(24));
        gives(3, "0.0", "0.00007", "0." + "0".repeat(12));
        gives(3, "1." + "0".repeat(22), "1", "1." + "0".repeat(22));
        gives(3, "1", "7e20", "0." + "0".repeat(20) + "1429");
        gives(3, "1e31", "1", "1" + "0".repeat(31));
        gives(3, "1e31", "1.000", "1" + "0".repeat(31) + ".000");
        gives(3, "1", "1e24", TINY);
        gives(3, "5", "1e25", TINY);
        gives(3, "-5", "1e25", "-" + TINY);
        gives(3, "-4", "1e25", "0." + "0".repeat(24));
        gives(3, "3e-21", "2e-17", "0.00015" + "0".repeat(16));
        gives(3, "2e-21", "3e-17", "0.000066666666666666666667");
        refuses(3, "1e31", "0.1", -3);
        refuses(3, "1", "0", -4);
        refuses(3, "0", "0.00", -4);
    }

    private static void quotients() {
        gives(4, "7", "2", "3");
        gives(4, "-7", "2.00", "-3");
        gives(4, "-1", "2", "0");
        gives(4, "1", "-" + TINY, "-1" + "0".repeat(24));
        gives(4, "0.9", "0.3", "3");
        gives(4, "1e31", "1.1", "9090909090909090909090909090909");
        refuses(4, "1e8", TINY, -3);
        gives(4, "99999999", TINY, "99999999" + "0".repeat(24));
        gives(4, "49999999999980000", "9999999999990000", "5");
        gives(4, "49999999999940000", "9999999999990000", "4");
        gives(4, "49999999999950000", "9999999999990000", "5");
        refuses(4, "5", "0.0", -4);
    }

    private static void remainders() {
        gives(5, "7", "2", "1");
        gives(5, "-7", "2.00", "-1.00");
        gives(5, "7", "-2", "1");
        gives(5, "-6", "2", "0");
        gives(5, "1.05", "0.1", "0.05");
        gives(5, NINES, "7e-24", "0." + "0".repeat(23) + remainderOfNines());
        gives(5, "0.3", "1e31", "0.3");
        gives(5, "49999999999980000", "9999999999990000", "30000");
        gives(5, "-49999999999940000", "9999999999990000", "-9999999999980000");
        refuses(5, "5", "0.0", -4);
    }

    private static String remainderOfNines() {
        return new java.math.BigInteger(NINES + "0".repeat(24)).mod(java.math.BigInteger.valueOf(7)).toString();
    }

    private static void infinities() {
        for (int op = 0; op < 6; op++) {
            for (String other : new String[] {"0", "1", "-1.5", "inf", "-inf", "nan"}) {
                gives(op, "nan", other, "NaN");
                gives(op, other, "nan", "NaN");
            }
        }
        String plus = "Infinity";
        String minus = "-Infinity";
        table(0, plus, new String[] {plus, plus, plus, plus, "NaN"});
        table(0, minus, new String[] {minus, minus, minus, "NaN", minus});
        table(1, plus, new String[] {plus, plus, plus, "NaN", plus});
        table(1, minus, new String[] {minus, minus, minus, minus, "NaN"});
        table(2, plus, new String[] {"NaN", plus, minus, plus, minus});
        table(2, minus, new String[] {"NaN", minus, plus, minus, plus});
        for (int op = 3; op <= 4; op++) {
            table(op, plus, new String[] {"", plus, minus, "NaN", "NaN"});
            table(op, minus, new String[] {"", minus, plus, "NaN", "NaN"});
        }
        table(5, plus, new String[] {"", "NaN", "NaN", "NaN", "NaN"});
        table(5, minus, new String[] {"", "NaN", "NaN", "NaN", "NaN"});
        for (String infinite : new String[] {plus, minus}) {
            String opposite = infinite.equals(plus) ? minus : plus;
            gives(0, "-1.5", infinite, infinite);
            gives(1, "-1.5", infinite, opposite);
            gives(2, "-1.5", infinite, opposite);
            gives(2, "0.00", infinite, "NaN");
            gives(3, "-1.5", infinite, "0");
            gives(4, "-1.5", infinite, "0");
            gives(5, "-1.50", infinite, "-1.50");
            gives(5, "0.00", infinite, "0.00");
        }
    }

    /** What op makes of a and of 0.0, 2.50, -2.50, PLUS and MINUS; no text is a division by zero. */
    private static void table(int op, String a, String[] texts) {
        String[] others = {"0.0", "2.50", "-2.50", "inf", "-inf"};
        for (int i = 0; i < others.length; i++) {
            if (texts[i].isEmpty()) {
                refuses(op, a, others[i], -4);
            } else {
                gives(op, a, others[i], texts[i]);
            }
        }
    }

    private static void registers() {
        ScaledNumeralDesk desk = entered("9.5", "0");
        int[] wrong = {-1, 8, Integer.MAX_VALUE, Integer.MIN_VALUE};
        for (int w : wrong) {
            CHECKS.same("d " + w, desk.apply(3, w, 0, 1), -1);
            CHECKS.same("a " + w, desk.apply(3, 2, w, 1), -1);
            CHECKS.same("b " + w, desk.apply(3, 2, 0, w), -1);
            CHECKS.same("op " + w, desk.apply(w, 2, 0, 1), -1);
        }
        CHECKS.same("op 6", desk.apply(6, 2, 0, 0), -1);
        CHECKS.same("a, b and d the same", desk.apply(2, 0, 0, 0), 0);
        CHECKS.same("text", Checks.text(desk, 0), "90.25");
        CHECKS.same("a and d the same", desk.apply(5, 0, 0, 3), -4);
        Checks.enter(desk, 3, "4");
        CHECKS.same("b and d the same", desk.apply(4, 3, 0, 3), 0);
        CHECKS.same("text", Checks.text(desk, 3), "22");
        CHECKS.same("a stays", Checks.text(desk, 0), "90.25");
        CHECKS.same("from itself", desk.apply(1, 0, 0, 0), 0);
        CHECKS.same("text", Checks.text(desk, 0), "0.00");
        for (int d = 0; d < 8; d++) {
            CHECKS.same("to " + d, desk.apply(0, d, 3, 3), 0);
        }
    }
}
