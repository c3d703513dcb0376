/** Promise 10. */
public final class CompareTest {
    public static void main(String[] args) {
        Checks checks = new Checks("CompareTest");
        String[][] rising = {
            {"-inf"}, {"-" + "9".repeat(32) + ".9"}, {"-" + "9".repeat(32)}, {"-10000.1", "-10000.10"}, {"-10000"},
            {"-9999.9"}, {"-1", "-1.000"}, {"-1e-24"}, {"0", "0.00", "-0"}, {"1e-24"}, {"0.5", "0.50"}, {"1", "1.0"},
            {"9999"}, {"10000"}, {"20000"}, {"20000.0001"}, {"1e31"}, {"9".repeat(32)}, {"inf"}, {"nan"}};
        for (int i = 0; i < rising.length; i++) {
            for (int j = 0; j < rising.length; j++) {
                for (String a : rising[i]) {
                    for (String b : rising[j]) {
                        ScaledNumeralDesk desk = new ScaledNumeralDesk();
                        Checks.enter(desk, 2, a);
                        Checks.enter(desk, 7, b);
                        checks.same(a + " with " + b, desk.compare(2, 7), Integer.compare(i, j));
                    }
                }
            }
        }
        ScaledNumeralDesk desk = new ScaledNumeralDesk();
        for (int r : new int[] {-1, 8, Integer.MAX_VALUE, Integer.MIN_VALUE}) {
            checks.same("compare(" + r + ", 0)", desk.compare(r, 0), -2);
            checks.same("compare(0, " + r + ")", desk.compare(0, r), -2);
            checks.same("compare(" + r + ", itself)", desk.compare(r, r), -2);
        }
        checks.same("compare(3, 3)", desk.compare(3, 3), 0);
        checks.end();
    }
}
