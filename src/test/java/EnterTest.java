/** Promise 3. */
public final class EnterTest {
    private static final Checks CHECKS = new Checks("EnterTest");
    private static final String NINES = "9".repeat(32);

    public static void main(String[] args) {
        numerals();
        exponents();
        roundingAtTwentyFour();
        tooLarge();
        notNumerals();
        buffersAndRegisters();
        CHECKS.end();
    }

    private static void good(String typed, String text, int scale) {
        ScaledNumeralDesk desk = new ScaledNumeralDesk();
        CHECKS.same("enter of '" + typed + "'", Checks.enter(desk, 5, typed), 0);
        CHECKS.same("text of '" + typed + "'", Checks.text(desk, 5), text);
        CHECKS.same("scale of '" + typed + "'", desk.scale(5), scale);
        CHECKS.same("buffer after '" + typed + "'", desk.enter(5), -2);
    }

    private static void bad(String typed, int answer) {
        ScaledNumeralDesk desk = new ScaledNumeralDesk();
        Checks.enter(desk, 5, "3.25");
        CHECKS.same("enter of '" + typed + "'", Checks.enter(desk, 5, typed), answer);
        CHECKS.same("register after '" + typed + "'", Checks.text(desk, 5), "3.25");
        CHECKS.same("after '" + typed + "' the buffer is empty", Checks.enter(desk, 5, "8"), 0);
        CHECKS.same("text after that", Checks.text(desk, 5), "8");
    }

    private static void numerals() {
        good("0", "0", 0);
        good("-0", "0", 0);
        good("-0.00", "0.00", 2);
        good("+12.50", "12.50", 2);
        good("-12.50", "-12.50", 2);
        good("007", "7", 0);
        good("5.", "5", 0);
        good(".5", "0.5", 1);
        good("-.05", "-0.05", 2);
        good("00012.3400", "12.3400", 4);
        good("NaN", "NaN", -1);
        good("nan", "NaN", -1);
        good("nAN", "NaN", -1);
        good("Infinity", "Infinity", -1);
        good("+INFINITY", "Infinity", -1);
        good("-infinity", "-Infinity", -1);
        good("inf", "Infinity", -1);
        good("+Inf", "Infinity", -1);
        good("-iNF", "-Infinity", -1);
        good(NINES + "." + "9".repeat(24), NINES + "." + "9".repeat(24), 24);
        good("-" + NINES + "." + "9".repeat(24), "-" + NINES + "." + "9".repeat(24), 24);
        good("0".repeat(48) + NINES, NINES, 0);
    }

    private static void exponents() {
        good("1e0", "1", 0);
        good("1e5", "100000", 0);
        good("1E+5", "100000", 0);
        good("1e-5", "0.00001", 5);
        good("1.50e1", "15.0", 1);
        good("1.50e2", "150", 0);
        good("1.50e3", "1500", 0);
        good("5.e2", "500", 0);
        good(".5e1", "5", 0);
        good("12345e-3", "12.345", 3);
        good("1e31", "1" + "0".repeat(31), 0);
        good("1e005", "100000", 0);
        good("1e-00", "1", 0);
        good("0e999", "0", 0);
        good("-0.0e+999", "0", 0);
        good("0e-999", "0." + "0".repeat(24), 24);
        good("0.0e-3", "0.0000", 4);
        good("0.000e-999", "0." + "0".repeat(24), 24);
        good("0." + "0".repeat(40) + "1e41", "1", 0);
        good("0." + "0".repeat(40) + "1e72", "1" + "0".repeat(31), 0);
    }

    private static void roundingAtTwentyFour() {
        String zeros = "0".repeat(23);
        good("0." + zeros + "14", "0." + zeros + "1", 24);
        good("0." + zeros + "15", "0." + zeros + "2", 24);
        good("0." + zeros + "1499999", "0." + zeros + "1", 24);
        good("-0." + zeros + "15", "-0." + zeros + "2", 24);
        good("-0." + zeros + "04", "0." + zeros + "0", 24);
        good("0." + zeros + "05", "0." + zeros + "1", 24);
        good("5e-25", "0." + zeros + "1", 24);
        good("-4e-25", "0." + zeros + "0", 24);
        good("9e-26", "0." + zeros + "0", 24);
        good("9e-999", "0." + zeros + "0", 24);
        good("0." + "9".repeat(25), "1." + "0".repeat(24), 24);
        good("1." + "0".repeat(30), "1." + "0".repeat(24), 24);
        good("12345e-30", "0." + "0".repeat(24), 24);
        good("1234567e-30", "0." + zeros + "1", 24);
        good("1534567e-30", "0." + zeros + "2", 24);
    }

    private static void tooLarge() {
        bad("1e32", -3);
        bad("-1e32", -3);
        bad("1e999", -3);
        bad("0.1e33", -3);
        bad("1" + "0".repeat(32), -3);
        bad("1" + "0".repeat(32) + ".5", -3);
        bad("9".repeat(80), -3);
        bad("1" + "0".repeat(40), -3);
        bad(NINES + "." + "9".repeat(24) + "5", -3);
        bad("-" + NINES + "." + "9".repeat(25), -3);
        bad("0." + "0".repeat(40) + "1e73", -3);
        // Roundings that carry through all digits, however many there are.
        for (int nines = 32; nines <= 54; nines++) {
            bad("9".repeat(nines) + "." + "9".repeat(25), -3);
        }
        for (int nines = 57; nines <= 76; nines++) {
            bad("9".repeat(nines) + "e-25", -3);
        }
        good(NINES + "." + "9".repeat(24) + "4", NINES + "." + "9".repeat(24), 24);
    }

    private static void notNumerals() {
        String[] texts = {
            "", " ", "+", "-", ".", "+.", "e", "e5", ".e5", "1e", "1e+", "1e-", "1e1234", "1e0000", "1e1.", "1e1 ",
            " 1", "1 ", "1 2", "1..2", "1.2.3", "--1", "+-1", "1-", "1+2", "0x1", "1,5", "1f", "abc", "1e1e1", "1ee1",
            "+NaN", "-NaN", "NaN ", " NaN", "Na", "NaNN", "nan0", "Infinit", "Infinityy", "infi", "in", "++inf",
            "inf ", " inf", "xan", "jnf", "Anfinity", "-tnf", "na", "nfinity",
            "inf1", "1inf", "-", "Infinity-", "1E5x", "1e+-5", "1e--5", "1.5/", "1:", "@", "`"};
        for (String text : texts) {
            bad(text, -2);
        }
        bad("1".repeat(79) + "e", -2);
        bad("1".repeat(78) + "e-", -2);
        bad("1".repeat(79) + "-", -2);
    }

    private static void buffersAndRegisters() {
        ScaledNumeralDesk desk = new ScaledNumeralDesk();
        Checks.type(desk, "12.5");
        CHECKS.same("enter(-1)", desk.enter(-1), -1);
        CHECKS.same("enter(8)", desk.enter(8), -1);
        CHECKS.same("enter(MAX)", desk.enter(Integer.MAX_VALUE), -1);
        CHECKS.same("enter(MIN)", desk.enter(Integer.MIN_VALUE), -1);
        Checks.type(desk, "0");
        for (int r = 0; r < 8; r++) {
            CHECKS.same("enter(" + r + ")", desk.enter(r), r == 0 ? 0 : -2);
        }
        CHECKS.same("text", Checks.text(desk, 0), "12.50");
        CHECKS.same("others", Checks.text(desk, 1), "0");
        Checks.type(desk, "rubbish");
        CHECKS.same("-1 before -2", desk.enter(9), -1);
        CHECKS.same("-2", desk.enter(7), -2);
        for (int r = 0; r < 8; r++) {
            CHECKS.same("enter each", Checks.enter(desk, r, "1." + r), 0);
        }
        for (int r = 0; r < 8; r++) {
            CHECKS.same("each text", Checks.text(desk, r), "1." + r);
        }
    }
}
