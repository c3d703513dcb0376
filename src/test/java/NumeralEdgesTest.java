import java.math.BigDecimal;
import java.math.MathContext;
import java.math.RoundingMode;

/** The boundary cases that "Terms" names of numerals: scales, magnitudes, the sign of 0, roundings, weight and lead. */
public final class NumeralEdgesTest {
    private static final Edges EDGES = new Edges("NumeralEdgesTest");
    private static final String NINES = Edges.NINES;
    private static final String MOST = Edges.MOST;
    private static final String TINY = Edges.TINY;
    private static final String ZERO24 = Edges.ZERO24;
    private static final String TEN31 = "1" + "0".repeat(31);

    public static void main(String[] args) {
        scaleOfAtLeastZero();
        scaleOfAtMostTwentyFour();
        magnitudeOfSums();
        magnitudeOfProducts();
        magnitudeOfDivisions();
        magnitudeOfQuotients();
        magnitudeOfRoundings();
        magnitudeOfWholeNumbers();
        magnitudeThatIsNeverTooLarge();
        zeroHasNoSign();
        registersAtFirst();
        roundedOfTwoEquallyNearOnes();
        roundedAtNegativeNumbers();
        truncatedKeepsTheSign();
        weightInDivisions();
        leadInDivisions();
        weightAndLeadOfZero();
        weightInRoots();
        EDGES.end();
    }

    /** "a SCALE from 0 to 24" */
    private static void scaleOfAtLeastZero() {
        EDGES.enterGives("1.5e1", "15");
        EDGES.enterGives("1.5e2", "150");
        EDGES.adjustGives(0, "15.5", 0, "16");
        EDGES.adjustGives(0, "15.5", -1, "20");
        EDGES.adjustGives(1, "15.5", 0, "15");
        EDGES.adjustGives(1, "15.5", -1, "10");
        EDGES.fitGives("15.5", 5, 0, "16");
        EDGES.fitGives("15.5", 5, -1, "20");
        EDGES.applyGives(3, "2e16", "1", "2" + "0".repeat(16));
        EDGES.applyGives(3, "2e20", "1", "2" + "0".repeat(20));
    }

    /** "a SCALE from 0 to 24" */
    private static void scaleOfAtMostTwentyFour() {
        EDGES.enterGives("1e-24", TINY);
        EDGES.enterGives("10e-25", TINY);
        EDGES.applyGives(2, "1e-11", "1.0e-11", "0." + "0".repeat(21) + "10");
        EDGES.applyGives(2, "1e-12", "1e-12", TINY);
        EDGES.applyGives(2, "1e-12", "1.0e-12", TINY);
        EDGES.applyGives(2, "1.0e-23", "1.0", "0." + "0".repeat(22) + "10");
        EDGES.applyGives(2, "0e-24", "0e-24", ZERO24);
        EDGES.applyGives(3, "0.00010001", "1", "0.00010001" + "0".repeat(16));
        EDGES.applyGives(3, "0.00000001", "1", "0.00000001" + "0".repeat(16));
        EDGES.adjustGives(0, "1.5", 24, "1.5" + "0".repeat(23));
        EDGES.adjustGives(0, "1.5", 25, "1.5" + "0".repeat(23));
        EDGES.adjustGives(6, "1e-16", 0, "0.00000001" + "0".repeat(16));
        EDGES.adjustGives(6, "1e-20", 0, "0.0000000001" + "0".repeat(14));
    }

    /** "a magnitude below 10^32" ... "a magnitude of 10^32 or more is TOO LARGE" */
    private static void magnitudeOfSums() {
        for (String sign : new String[] {"", "-"}) {
            String other = sign.isEmpty() ? "-" : "";
            EDGES.applyGives(0, sign + MOST, "0", sign + MOST);
            EDGES.applyRefuses(0, sign + MOST, sign + TINY, -3);
            EDGES.applyGives(0, sign + NINES, sign + "0." + "9".repeat(24), sign + MOST);
            EDGES.applyRefuses(0, sign + NINES, sign + "1", -3);
            EDGES.applyRefuses(0, sign + MOST, sign + MOST, -3);
            EDGES.applyGives(1, sign + MOST, other + "0", sign + MOST);
            EDGES.applyRefuses(1, sign + MOST, other + TINY, -3);
            EDGES.applyRefuses(1, sign + NINES, other + "1", -3);
            EDGES.applyGives(1, sign + MOST, sign + MOST, ZERO24);
        }
    }

    private static void magnitudeOfProducts() {
        EDGES.applyGives(2, "1e16", "9999999999999999.9999999999999999", NINES + "." + "0".repeat(16));
        EDGES.applyRefuses(2, "1e16", "1e16", -3);
        EDGES.applyRefuses(2, "-1e16", "1e16", -3);
        EDGES.applyRefuses(2, MOST, "-" + MOST, -3);
        // 10^32 less 6.4 or 4.9 times 10^-25, rounded at 24.
        String less = "9999999999999999.999999999999";
        String more = "10000000000000000.000000000000";
        EDGES.applyGives(2, less + "2", more + "8", MOST);
        EDGES.applyRefuses(2, less + "3", more + "7", -3);
        EDGES.applyGives(2, "-" + less + "2", more + "8", "-" + MOST);
        EDGES.applyRefuses(2, less + "3", "-" + more + "7", -3);
    }

    private static void magnitudeOfDivisions() {
        EDGES.applyGives(3, "9" + "0".repeat(30), "0.1", "9" + "0".repeat(31) + ".0");
        EDGES.applyRefuses(3, "1e31", "0.1", -3);
        EDGES.applyRefuses(3, "1e31", "-0.1", -3);
        EDGES.applyGives(3, "99999999." + "9".repeat(23), TINY, "9".repeat(31) + "0." + "0".repeat(24));
        EDGES.applyRefuses(3, "1e8", TINY, -3);
        EDGES.applyRefuses(3, MOST, TINY, -3);
        EDGES.applyGives(3, MOST, "1", MOST);
        EDGES.applyGives(3, MOST, "-1", "-" + MOST);
    }

    private static void magnitudeOfQuotients() {
        EDGES.applyGives(4, "99999999." + "9".repeat(24), TINY, NINES);
        EDGES.applyRefuses(4, "1e8", TINY, -3);
        EDGES.applyRefuses(4, "1e8", "-" + TINY, -3);
        EDGES.applyRefuses(4, "-" + MOST, TINY, -3);
        EDGES.applyGives(4, MOST, "1", NINES);
        EDGES.applyGives(4, "-" + MOST, "1", "-" + NINES);
    }

    private static void magnitudeOfRoundings() {
        for (String sign : new String[] {"", "-"}) {
            EDGES.adjustGives(0, sign + NINES + ".49", 0, sign + NINES);
            EDGES.adjustRefuses(0, sign + NINES + ".50", 0, -3);
            EDGES.adjustGives(0, sign + MOST, 24, sign + MOST);
            EDGES.adjustRefuses(0, sign + MOST, 23, -3);
            EDGES.adjustGives(0, sign + "94" + "9".repeat(30), -31, sign + "9" + "0".repeat(31));
            EDGES.adjustRefuses(0, sign + "95" + "0".repeat(30), -31, -3);
            EDGES.fitGives(sign + NINES + ".49", 56, 0, sign + NINES);
            EDGES.fitRefuses(sign + NINES + ".50", 56, 0, -3);
            EDGES.fitGives(sign + "49" + "9".repeat(30), 56, -32, "0");
            EDGES.fitRefuses(sign + "5" + "0".repeat(31), 56, -32, -3);
        }
    }

    private static void magnitudeOfWholeNumbers() {
        EDGES.adjustGives(2, NINES + ".00", 0, NINES);
        EDGES.adjustRefuses(2, NINES + TINY.substring(1), 0, -3);
        EDGES.adjustGives(2, "-" + MOST, 0, "-" + NINES);
        EDGES.adjustGives(3, "-" + NINES + ".00", 0, "-" + NINES);
        EDGES.adjustRefuses(3, "-" + NINES + TINY.substring(1), 0, -3);
        EDGES.adjustGives(3, MOST, 0, NINES);
    }

    private static void magnitudeThatIsNeverTooLarge() {
        for (String sign : new String[] {"", "-"}) {
            EDGES.adjustGives(1, sign + MOST, 0, sign + NINES);
            EDGES.adjustGives(1, sign + MOST, -31, sign + "9" + "0".repeat(31));
            EDGES.adjustGives(5, sign + MOST, 0, sign + MOST);
            EDGES.applyGives(5, sign + MOST, TINY, ZERO24);
            EDGES.applyGives(5, sign + MOST, "2e-24", sign + TINY);
        }
        EDGES.adjustGives(4, MOST, 0, "-" + MOST);
        EDGES.adjustGives(4, "-" + MOST, 0, MOST);
        EDGES.adjustGives(6, MOST, 0, "1" + "0".repeat(16) + "." + "0".repeat(24));
    }

    /** "0 has no sign", "0 has none, wherever it came from" */
    private static void zeroHasNoSign() {
        EDGES.enterGives("-0", "0");
        EDGES.enterGives("-.000", "0.000");
        EDGES.enterGives("-0e-999", ZERO24);
        EDGES.enterGives("-4e-25", ZERO24);
        EDGES.enterGives("-5e-25", "-" + TINY);
        EDGES.applyGives(0, "-1.5", "1.50", "0.00");
        EDGES.applyGives(0, "-0", "-0.0", "0.0");
        EDGES.applyGives(1, "-1.5", "-1.5", "0.0");
        EDGES.applyGives(1, "0", "0", "0");
        EDGES.applyGives(2, "-1", "0", "0");
        EDGES.applyGives(2, "0.0", "-1.0", "0.00");
        EDGES.applyGives(2, "-4e-13", "1e-12", ZERO24);
        EDGES.applyGives(2, "-5e-13", "1e-12", "-" + TINY);
        EDGES.applyGives(3, "0", "-2", "0." + "0".repeat(20));
        EDGES.applyGives(3, "-4", "1e25", ZERO24);
        EDGES.applyGives(3, "-5", "1e25", "-" + TINY);
        EDGES.applyGives(3, "-1", "inf", "0");
        EDGES.applyGives(4, "-1", "inf", "0");
        EDGES.applyGives(4, "1", "-inf", "0");
        EDGES.applyGives(4, "-1.99", "2", "0");
        EDGES.applyGives(4, "-2", "2", "-1");
        EDGES.applyGives(5, "-6", "2", "0");
        EDGES.applyGives(5, "-7", "2", "-1");
        EDGES.adjustGives(0, "-0.4", 0, "0");
        EDGES.adjustGives(0, "-0.5", 0, "-1");
        EDGES.adjustGives(1, "-0.9", 0, "0");
        EDGES.adjustGives(2, "-0.9", 0, "0");
        EDGES.adjustGives(2, "-1.9", 0, "-1");
        EDGES.adjustGives(3, "-0", 0, "0");
        EDGES.adjustGives(4, "0.00", 0, "0.00");
        EDGES.adjustGives(5, "-0.00", 0, "0");
        EDGES.fitGives("-0.04", 3, 1, "0.0");
        EDGES.fitGives("-0.05", 3, 1, "-0.1");
        EDGES.same("-0 and 0", Edges.after(Scene.of("-0", "0.0"), desk -> 0).compare(0, 1), 0);
        EDGES.same("-4e-25 and 0", Edges.after(Scene.of("-4e-25", "0"), desk -> 0).compare(0, 1), 0);
        EDGES.adjustGives(6, "-0.0", 0, "0." + "0".repeat(16));
    }

    /** "Registers are numbered 0 .. 7; each holds a numeral, at first the value 0 with scale 0." */
    private static void registersAtFirst() {
        for (int r = -1; r <= 8; r++) {
            boolean there = r >= 0 && r <= 7;
            ScaledNumeralDesk desk = new ScaledNumeralDesk();
            EDGES.same("scale at first of " + r, desk.scale(r), there ? 0 : -1);
            EDGES.same("length at first of " + r, desk.length(r), there ? 1 : -1);
            EDGES.same("character at first of " + r, desk.character(r, 0), there ? '0' : -1);
        }
    }

    /** "of two equally near ones that farther from 0" */
    private static void roundedOfTwoEquallyNearOnes() {
        for (String sign : new String[] {"", "-"}) {
            EDGES.adjustGives(0, sign + "2.4" + "9".repeat(23), 0, sign + "2");
            EDGES.adjustGives(0, sign + "2.5", 0, sign + "3");
            EDGES.adjustGives(0, sign + "3.5", 0, sign + "4");
            EDGES.adjustGives(0, sign + "0.125", 2, sign + "0.13");
            EDGES.adjustGives(0, sign + "0.1249", 2, sign + "0.12");
            EDGES.adjustGives(0, sign + "9999.5", 0, sign + "10000");
            EDGES.adjustGives(0, sign + "9999.4999", 0, sign + "9999");
            EDGES.adjustGives(0, sign + "0." + "9".repeat(24), 23, sign + "1." + "0".repeat(23));
            EDGES.applyGives(2, sign + "0.0000000000015", "1e-12", sign + "0." + "0".repeat(23) + "2");
            EDGES.applyGives(2, sign + "0.0000000000014", "1e-12", sign + TINY);
            EDGES.applyGives(3, sign + "25", "1e25", sign + "0." + "0".repeat(23) + "3");
            EDGES.applyGives(3, sign + "24.9", "1e25", sign + "0." + "0".repeat(23) + "2");
            EDGES.enterGives(sign + "25e-25", sign + "0." + "0".repeat(23) + "3");
            EDGES.enterGives(sign + "24999e-28", sign + "0." + "0".repeat(23) + "2");
            EDGES.fitGives(sign + "2.5", 1, 0, sign + "3");
            EDGES.fitGives(sign + "2.49", 1, 0, sign + "2");
        }
    }

    /** "ROUNDED at n (n may be negative)" */
    private static void roundedAtNegativeNumbers() {
        for (String sign : new String[] {"", "-"}) {
            EDGES.adjustGives(0, sign + "14.9", -1, sign + "10");
            EDGES.adjustGives(0, sign + "15", -1, sign + "20");
            EDGES.adjustGives(0, sign + "4", -1, "0");
            EDGES.adjustGives(0, sign + "5", -1, sign + "10");
            EDGES.adjustGives(0, sign + "4999.99", -4, "0");
            EDGES.adjustGives(0, sign + "5000", -4, sign + "10000");
            EDGES.adjustGives(0, sign + "5000", -5, "0");
            EDGES.adjustGives(0, sign + "4" + "9".repeat(30), -31, "0");
            EDGES.adjustGives(0, sign + "5" + "0".repeat(30), -31, sign + TEN31);
        }
    }

    /** "no greater than it in magnitude, with its sign" */
    private static void truncatedKeepsTheSign() {
        for (String sign : new String[] {"", "-"}) {
            EDGES.adjustGives(1, sign + "2.99", 1, sign + "2.9");
            EDGES.adjustGives(1, sign + "3.00", 1, sign + "3.0");
            EDGES.adjustGives(1, sign + "0.99", 0, "0");
            EDGES.adjustGives(1, sign + "1.00", 0, sign + "1");
            EDGES.adjustGives(1, sign + "9999", -4, "0");
            EDGES.adjustGives(1, sign + "10000", -4, sign + "10000");
            EDGES.adjustGives(1, sign + "19999.9", -4, sign + "10000");
        }
    }

    private static void divisionHasScale(String u, String v, int scale) {
        BigDecimal quotient = new BigDecimal(u).divide(new BigDecimal(v), scale, RoundingMode.HALF_UP);
        EDGES.applyGives(3, u, v, quotient.toPlainString());
    }

    /** "the greatest whole number w (negative ones too) for which 10000^w is at most |v|" */
    private static void weightInDivisions() {
        divisionHasScale("9999.9999", "1", 16);
        divisionHasScale("10000", "1", 16);
        divisionHasScale("20000", "1", 12);
        divisionHasScale("99999999.9999", "1", 12);
        divisionHasScale("200000000", "1", 8);
        divisionHasScale("0.9999", "1", 20);
        divisionHasScale("1", "0.9999", 16);
        divisionHasScale("1.9999", "0.9999", 16);
        divisionHasScale("0.9998", "0.9999", 20);
        divisionHasScale("1", "0.0001", 16);
        divisionHasScale("2", "0.0001", 12);
        divisionHasScale("2", "0.00009999", 12);
        divisionHasScale("-10000", "3", 16);
        divisionHasScale("10000", "-9999", 16);
        divisionHasScale("10000", "10001", 20);
        divisionHasScale("9999.9", "10000", 20);
        divisionHasScale("9999", "100000000", 24);
        // Weights of 10000^-5 and less: only the scales of numerals stop them.
        divisionHasScale("0.0002", "0.00000000000000000001", 20);
        divisionHasScale("0.00000000000000000002", "1", 24);
        divisionHasScale("3", "7" + "0".repeat(20), 24);
    }

    /** "1 less than that if the lead of u is at most the lead of v"; "rounded down (1 .. 9999)" */
    private static void leadInDivisions() {
        divisionHasScale("1", "2", 20);
        divisionHasScale("2", "2", 20);
        divisionHasScale("2.9999", "2", 20);
        divisionHasScale("3", "2", 16);
        divisionHasScale("3", "2.9999", 16);
        divisionHasScale("3", "3", 20);
        divisionHasScale("9999", "9998", 16);
        divisionHasScale("9999", "9999", 20);
        divisionHasScale("9999.9999", "9999", 20);
        divisionHasScale("19999", "1", 16);
        divisionHasScale("99990000", "9998", 12);
        divisionHasScale("99990000", "9999", 16);
        divisionHasScale("-3", "2", 16);
        divisionHasScale("2", "-2", 20);
        divisionHasScale("0.0003", "0.0002", 16);
        divisionHasScale("0.00029", "0.0002", 20);
    }

    /** "WEIGHT and LEAD of the value 0 are 0." */
    private static void weightAndLeadOfZero() {
        EDGES.applyGives(3, "0", "1", "0." + "0".repeat(20));
        EDGES.applyGives(3, "0", "9999", "0." + "0".repeat(20));
        EDGES.applyGives(3, "0", "10000", ZERO24);
        EDGES.applyGives(3, "0", "0.9999", "0." + "0".repeat(16));
        EDGES.applyGives(3, "0", "0.00009999", "0." + "0".repeat(12));
        EDGES.applyGives(3, "0.000", "0.000000009999", "0." + "0".repeat(12));
        EDGES.applyGives(3, "0.000", "0.0000000001", "0." + "0".repeat(10));
        EDGES.applyGives(3, "0", "1e31", ZERO24);
        EDGES.adjustGives(6, "0", 0, "0." + "0".repeat(16));
        EDGES.adjustGives(6, "0e-16", 0, "0." + "0".repeat(16));
        EDGES.adjustGives(6, "0e-17", 0, "0." + "0".repeat(17));
        EDGES.adjustGives(6, "0e-24", 0, ZERO24);
    }

    private static void rootHasScale(String u, int scale) {
        BigDecimal root = new BigDecimal(u).sqrt(new MathContext(80, RoundingMode.DOWN));
        EDGES.adjustGives(6, u, 0, root.setScale(scale, RoundingMode.HALF_UP).toPlainString());
    }

    private static void weightInRoots() {
        rootHasScale("1", 16);
        rootHasScale("9999.9999", 16);
        rootHasScale("10000", 14);
        rootHasScale("99999999", 14);
        rootHasScale("100000000", 12);
        rootHasScale("9" + "0".repeat(27), 4);
        rootHasScale("1" + "0".repeat(28), 2);
        rootHasScale(NINES, 2);
        rootHasScale(NINES + ".99", 2);
        rootHasScale(NINES + ".999", 3);
        rootHasScale("0.9999", 18);
        rootHasScale("0.0001", 18);
        rootHasScale("0.00009999", 20);
        rootHasScale("0.00000001", 20);
        rootHasScale("0.000000009999", 22);
        rootHasScale("0.0000000000009999", 24);
        rootHasScale("0.00000000000000009999", 24);
        rootHasScale(TINY, 24);
        rootHasScale("2.0000000000000000", 16);
        rootHasScale("2.00000000000000000", 17);
        rootHasScale("2." + "0".repeat(24), 24);
    }
}
