/** The boundary cases of promises 9 and 10. */
public final class FitEdgesTest {
    private static final Edges EDGES = new Edges("FitEdgesTest");
    private static final String NINES = Edges.NINES;

    public static void main(String[] args) {
        precisionOfOneToFiftySix();
        scaleOfMinusThirtyTwoToTwentyFour();
        registerOfFit();
        roundedAtTheScale();
        scaleIsNeverNegative();
        nanStays();
        infiniteIsRefused();
        magnitudeOfThePrecision();
        magnitudeForEachPrecision();
        tooLargeWhateverThePrecision();
        compareOfNoRegister();
        compareByValues();
        compareOfTheOthers();
        EDGES.end();
    }

    /** "precision is not 1 .. 56" */
    private static void precisionOfOneToFiftySix() {
        EDGES.fitGives("4.5", 1, 0, "5");
        EDGES.fitGives("4.5", 56, 0, "5");
        for (String a : new String[] {"4.5", "NaN", "inf", "-inf", "0"}) {
            for (int precision : new int[] {0, -1, 57, 58, Integer.MAX_VALUE, Integer.MIN_VALUE}) {
                EDGES.fitRefuses(a, precision, 0, -1);
                EDGES.fitRefuses(a, precision, 24, -1);
                EDGES.fitRefuses(a, precision, -32, -1);
            }
        }
    }

    /** "scale is not -32 .. 24" */
    private static void scaleOfMinusThirtyTwoToTwentyFour() {
        EDGES.fitGives("4.5", 56, 24, "4.5" + "0".repeat(23));
        EDGES.fitGives("4.5", 56, 23, "4.5" + "0".repeat(22));
        EDGES.fitGives("4.5", 1, -32, "0");
        EDGES.fitGives("4.5", 56, -32, "0");
        EDGES.fitGives("4.5e30", 1, -31, "0");
        EDGES.fitGives("5e30", 1, -31, "1" + "0".repeat(31));
        for (String a : new String[] {"4.5", "NaN", "inf", "-inf", "0"}) {
            for (int scale : new int[] {25, 26, -33, -34, Integer.MAX_VALUE, Integer.MIN_VALUE}) {
                EDGES.fitRefuses(a, 10, scale, -1);
                EDGES.fitRefuses(a, 1, scale, -1);
                EDGES.fitRefuses(a, 56, scale, -1);
            }
        }
    }

    /** "-1 when there is no register r" */
    private static void registerOfFit() {
        for (int r : Edges.NO_REGISTER) {
            EDGES.answers("fit(" + r + ")", Scene.of(), desk -> desk.fit(r, 5, 2), -1);
        }
        for (int r : new int[] {0, 1, 2, 4, 5, 7}) {
            EDGES.answers("fit(" + r + ")", Scene.of(), desk -> desk.fit(r, 9, 2), 0, "register " + r);
            EDGES.same("scale of " + r, Edges.after(Scene.of(), desk -> desk.fit(r, 9, 2)).scale(r), 2);
        }
    }

    /** "a finite one is rounded at the scale, and has that scale" */
    private static void roundedAtTheScale() {
        for (String sign : new String[] {"", "-"}) {
            EDGES.fitGives(sign + "1.2349", 5, 3, sign + "1.235");
            EDGES.fitGives(sign + "1.2344", 5, 3, sign + "1.234");
            EDGES.fitGives(sign + "1.2345", 5, 3, sign + "1.235");
            EDGES.fitGives(sign + "1.2", 5, 3, sign + "1.200");
            EDGES.fitGives(sign + "7", 5, 0, sign + "7");
            EDGES.fitGives("0", 5, 3, "0.000");
            EDGES.fitGives("0.00000", 5, 3, "0.000");
        }
    }

    /** "but 0 if it is negative" */
    private static void scaleIsNeverNegative() {
        EDGES.fitGives("1234.5", 5, 0, "1235");
        EDGES.fitGives("1234.5", 5, -1, "1230");
        EDGES.fitGives("1235.0", 5, -1, "1240");
        EDGES.fitGives("1249", 5, -2, "1200");
        EDGES.fitGives("1250", 5, -2, "1300");
        EDGES.fitGives("-49.9", 5, -2, "0");
    }

    /** "NaN stays. 0" */
    private static void nanStays() {
        for (int precision : new int[] {1, 28, 56}) {
            for (int scale : new int[] {-32, 0, 24}) {
                EDGES.fitGives("NaN", precision, scale, "NaN");
            }
        }
    }

    /** "-3 when the register is infinite" */
    private static void infiniteIsRefused() {
        for (String infinite : new String[] {"Infinity", "-Infinity"}) {
            for (int precision : new int[] {1, 56}) {
                for (int scale : new int[] {-32, 0, 24}) {
                    EDGES.fitRefuses(infinite, precision, scale, -3);
                }
            }
        }
    }

    /** "the rounded value has a magnitude of 10^(precision - scale) (the scale as given) or more" */
    private static void magnitudeOfThePrecision() {
        for (String sign : new String[] {"", "-"}) {
            EDGES.fitGives(sign + "99.99", 4, 2, sign + "99.99");
            EDGES.fitRefuses(sign + "100", 4, 2, -3);
            EDGES.fitGives(sign + "99.9949", 4, 2, sign + "99.99");
            EDGES.fitRefuses(sign + "99.995", 4, 2, -3);
            EDGES.fitGives(sign + "9", 1, 0, sign + "9");
            EDGES.fitRefuses(sign + "10", 1, 0, -3);
            EDGES.fitGives(sign + "9.4", 1, 0, sign + "9");
            EDGES.fitRefuses(sign + "9.5", 1, 0, -3);
            EDGES.fitGives(sign + "0.0949", 1, 2, sign + "0.09");
            EDGES.fitRefuses(sign + "0.095", 1, 2, -3);
            EDGES.fitGives(sign + "9e-24", 1, 24, sign + "0." + "0".repeat(23) + "9");
            EDGES.fitRefuses(sign + "10e-24", 1, 24, -3);
            EDGES.fitGives(sign + "9949", 2, -2, sign + "9900");
            EDGES.fitRefuses(sign + "9950", 2, -2, -3);
            EDGES.fitGives(sign + "94e30", 1, -31, sign + "9" + "0".repeat(31));
            EDGES.fitRefuses(sign + "95e30", 1, -31, -3);
        }
        EDGES.fitGives("0.00", 1, 24, Edges.ZERO24);
    }

    private static void magnitudeForEachPrecision() {
        for (int precision = 1; precision <= 56; precision++) {
            // Nines down to the last place that is kept, and one unit of that place more.
            int least = Math.max(-32, precision - 32);
            for (int scale : new int[] {least, Math.max(least, 0), 24}) {
                if (scale <= 24 && precision - scale <= 32) {
                    nines(precision, scale);
                }
            }
        }
    }

    private static void nines(int precision, int scale) {
        String last = "9".repeat(precision) + "e" + -scale;
        String first = "1" + "0".repeat(precision) + "e" + -scale;
        ScaledNumeralDesk desk = new ScaledNumeralDesk();
        EDGES.same("enter " + last, Checks.enter(desk, 0, last), 0);
        String text = Checks.text(desk, 0);
        EDGES.same("fit of " + last, desk.fit(0, precision, scale), 0);
        EDGES.same("text of " + last, Checks.text(desk, 0), text);
        if (precision - scale < 32) {
            EDGES.same("enter " + first, Checks.enter(desk, 0, first), 0);
            EDGES.same("fit of " + first, desk.fit(0, precision, scale), -3);
        }
    }

    /** "or is TOO LARGE" */
    private static void tooLargeWhateverThePrecision() {
        EDGES.fitGives(NINES + ".4", 56, 0, NINES);
        EDGES.fitRefuses(NINES + ".5", 56, 0, -3);
        EDGES.fitRefuses(NINES + ".5", 33, 0, -3);
        EDGES.fitGives(Edges.MOST, 56, 24, Edges.MOST);
        EDGES.fitRefuses(Edges.MOST, 55, 24, -3);
        EDGES.fitRefuses(Edges.MOST, 56, 23, -3);
        EDGES.fitRefuses("-" + Edges.MOST, 56, 23, -3);
        EDGES.fitGives("94" + "9".repeat(30), 56, -31, "9" + "0".repeat(31));
        EDGES.fitRefuses("95" + "0".repeat(30), 56, -31, -3);
        EDGES.fitRefuses("5" + "0".repeat(31), 1, -32, -3);
        EDGES.fitGives("4" + "9".repeat(31), 1, -32, "0");
    }

    /** "-2 when there is no register a or b" */
    private static void compareOfNoRegister() {
        for (int r : Edges.NO_REGISTER) {
            EDGES.answers("compare(" + r + ", 0)", Scene.of(), desk -> desk.compare(r, 0), -2);
            EDGES.answers("compare(7, " + r + ")", Scene.of(), desk -> desk.compare(7, r), -2);
            EDGES.answers("compare(" + r + ", itself)", Scene.of(), desk -> desk.compare(r, r), -2);
        }
        EDGES.answers("compare(0, 7)", Scene.of(), desk -> desk.compare(0, 7), -1);
        EDGES.answers("compare(7, 0)", Scene.of(), desk -> desk.compare(7, 0), 1);
        for (int r = 0; r < 8; r++) {
            int own = r;
            EDGES.answers("compare with itself", Scene.of(), desk -> desk.compare(own, own), 0);
        }
    }

    private static void compares(String a, String b, int answer) {
        EDGES.answers(a + " with " + b, Scene.of(a, b), desk -> desk.compare(0, 1), answer);
        EDGES.answers(b + " with " + a, Scene.of(a, b), desk -> desk.compare(1, 0), -answer);
    }

    /** "by their values (scales don't matter)" */
    private static void compareByValues() {
        compares("1.5", "1.500", 0);
        compares("-1.5", "-1.500", 0);
        compares("0", "0e-24", 0);
        compares("-0", "0.0", 0);
        compares("2", "1." + "9".repeat(24), 1);
        compares("2", "2" + Edges.TINY.substring(1), -1);
        compares("-2", "-2" + Edges.TINY.substring(1), 1);
        compares("0", Edges.TINY, -1);
        compares("0", "-" + Edges.TINY, 1);
        compares(Edges.TINY, "-" + Edges.TINY, 1);
        compares("-" + Edges.MOST, Edges.MOST, -1);
        compares(Edges.MOST, NINES, 1);
        compares("9999", "10000", -1);
        compares("-9999", "-10000", 1);
        compares("9.00", "10", -1);
    }

    /** "MINUS is less than all others, NaN greater than all others, PLUS greater than all but NaN ..." */
    private static void compareOfTheOthers() {
        for (String finite : new String[] {"0", "0.00", "5.5", "-5.5", Edges.MOST, "-" + Edges.MOST}) {
            compares("-Infinity", finite, -1);
            compares("Infinity", finite, 1);
            compares("NaN", finite, 1);
        }
        compares("-Infinity", "Infinity", -1);
        compares("-Infinity", "NaN", -1);
        compares("Infinity", "NaN", -1);
        compares("NaN", "NaN", 0);
        compares("Infinity", "Infinity", 0);
        compares("-Infinity", "-Infinity", 0);
    }
}
