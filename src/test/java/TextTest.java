/** Promises 4, 5 and 6. */
public final class TextTest {
    private static final Checks CHECKS = new Checks("TextTest");

    public static void main(String[] args) {
        shows("0", "0", 0);
        shows("0.000", "0.000", 3);
        shows("-0.001", "-0.001", 3);
        shows("1", "1", 0);
        shows("10", "10", 0);
        shows("-9999", "-9999", 0);
        shows("10000", "10000", 0);
        shows("100000000.0001", "100000000.0001", 4);
        shows("-1234567890.987654321", "-1234567890.987654321", 9);
        shows("0." + "0".repeat(23) + "1", "0." + "0".repeat(23) + "1", 24);
        shows("1e31", "1" + "0".repeat(31), 0);
        shows("-" + "9".repeat(32) + "." + "8".repeat(24), "-" + "9".repeat(32) + "." + "8".repeat(24), 24);
        shows("nan", "NaN", -1);
        shows("inf", "Infinity", -1);
        shows("-inf", "-Infinity", -1);
        for (int power = 0; power < 32; power++) {
            shows("1e" + power, "1" + "0".repeat(power), 0);
        }
        for (int power = 1; power <= 24; power++) {
            shows("-3e-" + power, "-0." + "0".repeat(power - 1) + "3", power);
        }
        noSuchRegister();
        CHECKS.end();
    }

    private static void shows(String typed, String text, int scale) {
        ScaledNumeralDesk desk = new ScaledNumeralDesk();
        Checks.enter(desk, 6, typed);
        CHECKS.same("length of " + typed, desk.length(6), text.length());
        for (int i = 0; i < text.length(); i++) {
            CHECKS.same("character " + i + " of " + typed, desk.character(6, i), (int) text.charAt(i));
        }
        CHECKS.same("behind " + typed, desk.character(6, text.length()), -1);
        CHECKS.same("far behind " + typed, desk.character(6, Integer.MAX_VALUE), -1);
        CHECKS.same("before " + typed, desk.character(6, -1), -1);
        CHECKS.same("far before " + typed, desk.character(6, Integer.MIN_VALUE), -1);
        CHECKS.same("scale of " + typed, desk.scale(6), scale);
    }

    private static void noSuchRegister() {
        ScaledNumeralDesk desk = new ScaledNumeralDesk();
        for (int r : new int[] {-1, 8, 9, Integer.MAX_VALUE, Integer.MIN_VALUE}) {
            CHECKS.same("length(" + r + ")", desk.length(r), -1);
            CHECKS.same("character(" + r + ", 0)", desk.character(r, 0), -1);
            CHECKS.same("scale(" + r + ")", desk.scale(r), -1);
        }
    }
}
