import java.math.BigDecimal;
import java.math.BigInteger;

/** The boundary cases that "Terms" and promises 7 and 8 name of the operations of apply and adjust. */
public final class OperationEdgesTest {
    private static final Edges EDGES = new Edges("OperationEdgesTest");
    private static final String NINES = Edges.NINES;
    private static final String TINY = Edges.TINY;
    private static final String ZERO24 = Edges.ZERO24;
    private static final String PLUS = "Infinity";
    private static final String MINUS = "-Infinity";
    private static final String[] SOME = {"0", "0.00", "2.50", "-2.50", PLUS, MINUS, "NaN"};

    public static void main(String[] args) {
        scaleOfSums();
        scaleOfProducts();
        scaleOfDivisions();
        quotientIsTruncated();
        remainderIsExact();
        scaleOfRemainders();
        anyWithNaN();
        addOfInfinite();
        subtractOfInfinite();
        multiplyOfInfinite();
        divideAndQuotientOfInfinite();
        remainderOfInfinite();
        divisionByZero();
        numberBelowMinusThirtyTwo();
        numberAboveTwentyFour();
        numberThatIsNotLookedAt();
        ceilingAndFloor();
        negateKeepsTheScale();
        trimToTheLeastScale();
        rootAndItsScale();
        rootOfEachFourDigits();
        rootOutside();
        adjustOfOthers();
        applyOnItsOwnRegisters();
        adjustOnItsOwnRegister();
        refusedOnItsOwnRegister();
        EDGES.end();
    }

    /** "scale the greater of s and t" */
    private static void scaleOfSums() {
        for (int op = 0; op <= 1; op++) {
            EDGES.applyGives(op, "0", "0.000", "0.000");
            EDGES.applyGives(op, "0.000", "0", "0.000");
            EDGES.applyGives(op, "0.00", "0.00", "0.00");
            EDGES.applyGives(op, "5", "0e-24", "5." + "0".repeat(24));
            EDGES.applyGives(op, "5e-24", "0", "0." + "0".repeat(23) + "5");
        }
        EDGES.applyGives(0, "0.5", "0.50", "1.00");
        EDGES.applyGives(1, "0.5", "1", "-0.5");
    }

    /** "s + t but at most 24" */
    private static void scaleOfProducts() {
        EDGES.applyGives(2, "2", "3", "6");
        EDGES.applyGives(2, "2.0", "3", "6.0");
        EDGES.applyGives(2, "2.0", "3.00", "6.000");
        EDGES.applyGives(2, "2.00000000000", "3.000000000000", "6." + "0".repeat(23));
        EDGES.applyGives(2, "2.000000000000", "3.000000000000", "6." + "0".repeat(24));
        EDGES.applyGives(2, "2.000000000000", "3.0000000000000", "6." + "0".repeat(24));
        EDGES.applyGives(2, "2." + "0".repeat(24), "3." + "0".repeat(24), "6." + "0".repeat(24));
    }

    /** "the greatest of 16 - 4 * q, s and t, but at most 24" */
    private static void scaleOfDivisions() {
        EDGES.applyGives(3, "3." + "0".repeat(16), "2", "1.5" + "0".repeat(15));
        EDGES.applyGives(3, "3." + "0".repeat(17), "2", "1.5" + "0".repeat(16));
        EDGES.applyGives(3, "3", "2." + "0".repeat(16), "1.5" + "0".repeat(15));
        EDGES.applyGives(3, "3", "2." + "0".repeat(17), "1.5" + "0".repeat(16));
        EDGES.applyGives(3, "3." + "0".repeat(18), "2." + "0".repeat(17), "1.5" + "0".repeat(17));
        EDGES.applyGives(3, "3." + "0".repeat(24), "2", "1.5" + "0".repeat(23));
        EDGES.applyGives(3, "2e16", "1.0", "2" + "0".repeat(16) + ".0");
        EDGES.applyGives(3, "20000000000000000.00", "1", "2" + "0".repeat(16) + ".00");
        EDGES.applyGives(3, "1e16", "1", "1" + "0".repeat(16) + ".0000");
        EDGES.applyGives(3, "0.0001", "1", "0.0001" + "0".repeat(20));
        EDGES.applyGives(3, "0.0002", "1", "0.0002" + "0".repeat(16));
        EDGES.applyGives(3, "0.00000001", "1", "0.00000001" + "0".repeat(16));
    }

    /** "u / v truncated at 0, scale 0" */
    private static void quotientIsTruncated() {
        for (String sign : new String[] {"", "-"}) {
            EDGES.applyGives(4, sign + "5.99", "2", sign + "2");
            EDGES.applyGives(4, sign + "6.00", "2.0", sign + "3");
            EDGES.applyGives(4, "5.99", sign + "2", sign + "2");
            EDGES.applyGives(4, sign + "1.999", "2", "0");
            EDGES.applyGives(4, sign + "0.00", "3.5", "0");
            EDGES.applyGives(4, sign + NINES, NINES + ".1", "0");
            EDGES.applyGives(4, sign + NINES, NINES, sign + "1");
        }
        EDGES.applyGives(4, "-6", "-4", "1");
    }

    /** "exact however great that quotient is" */
    private static void remainderIsExact() {
        BigInteger most = new BigInteger("9".repeat(56));
        for (String divisor : new String[] {"7", "9998", "10003", "99999998", "100000000000000000003"}) {
            String digits = most.mod(new BigInteger(divisor)).toString();
            String text = "0." + "0".repeat(24 - digits.length()) + digits;
            EDGES.applyGives(5, Edges.MOST, divisor + "e-24", text);
            EDGES.applyGives(5, "-" + Edges.MOST, divisor + "e-24", "-" + text);
        }
        // The quotient is 99999999.9.. or 10^8 over the least value: just below 10^32, and just there.
        EDGES.applyGives(5, "99999999." + "9".repeat(24), TINY, ZERO24);
        EDGES.applyGives(5, "100000000", TINY, ZERO24);
        EDGES.applyGives(5, "100000000." + "0".repeat(23) + "1", "2e-24", TINY);
        EDGES.applyGives(5, NINES, NINES, "0");
        EDGES.applyGives(5, NINES, NINES + ".1", NINES + ".0");
    }

    /** The remainder has the sign of u, and "scale the greater of s and t". */
    private static void scaleOfRemainders() {
        EDGES.applyGives(5, "7", "2.00", "1.00");
        EDGES.applyGives(5, "7.000", "2.0", "1.000");
        EDGES.applyGives(5, "-7", "-2", "-1");
        EDGES.applyGives(5, "-7", "2", "-1");
        EDGES.applyGives(5, "7", "-2.0", "1.0");
        EDGES.applyGives(5, "0", "-2.0", "0.0");
        EDGES.applyGives(5, "1.99", "2", "1.99");
        EDGES.applyGives(5, "2.00", "2", "0.00");
    }

    /** "If a or b is NaN, the result of any of them is NaN (also by 0)." */
    private static void anyWithNaN() {
        for (int op = 0; op <= 5; op++) {
            for (String other : SOME) {
                EDGES.applyGives(op, "NaN", other, "NaN");
                EDGES.applyGives(op, other, "NaN", "NaN");
            }
        }
    }

    /** "PLUS and MINUS give NaN, otherwise the infinite one (or both) gives itself" */
    private static void addOfInfinite() {
        EDGES.applyGives(0, PLUS, MINUS, "NaN");
        EDGES.applyGives(0, MINUS, PLUS, "NaN");
        EDGES.applyGives(0, PLUS, PLUS, PLUS);
        EDGES.applyGives(0, MINUS, MINUS, MINUS);
        for (String finite : new String[] {"0.0", "2.5", "-" + Edges.MOST, Edges.MOST}) {
            EDGES.applyGives(0, PLUS, finite, PLUS);
            EDGES.applyGives(0, finite, PLUS, PLUS);
            EDGES.applyGives(0, MINUS, finite, MINUS);
            EDGES.applyGives(0, finite, MINUS, MINUS);
        }
    }

    /** "SUBTRACT: ADD of a and the negative of b" */
    private static void subtractOfInfinite() {
        EDGES.applyGives(1, PLUS, PLUS, "NaN");
        EDGES.applyGives(1, MINUS, MINUS, "NaN");
        EDGES.applyGives(1, PLUS, MINUS, PLUS);
        EDGES.applyGives(1, MINUS, PLUS, MINUS);
        for (String finite : new String[] {"0.0", "2.5", "-" + Edges.MOST, Edges.MOST}) {
            EDGES.applyGives(1, PLUS, finite, PLUS);
            EDGES.applyGives(1, finite, PLUS, MINUS);
            EDGES.applyGives(1, MINUS, finite, MINUS);
            EDGES.applyGives(1, finite, MINUS, PLUS);
        }
    }

    /** "infinite by the value 0 gives NaN, otherwise PLUS if both have the same sign, else MINUS" */
    private static void multiplyOfInfinite() {
        for (String infinite : new String[] {PLUS, MINUS}) {
            String opposite = infinite.equals(PLUS) ? MINUS : PLUS;
            for (String zero : new String[] {"0", "0.00", "-0"}) {
                EDGES.applyGives(2, infinite, zero, "NaN");
                EDGES.applyGives(2, zero, infinite, "NaN");
            }
            for (String size : new String[] {TINY, "3", NINES, "inf"}) {
                EDGES.applyGives(2, infinite, size, infinite);
                EDGES.applyGives(2, size, infinite, infinite);
                EDGES.applyGives(2, infinite, "-" + size, opposite);
                EDGES.applyGives(2, "-" + size, infinite, opposite);
            }
        }
    }

    /** "DIVIDE and QUOTIENT: infinite by infinite gives NaN; ... finite by infinite gives the value 0 with scale 0." */
    private static void divideAndQuotientOfInfinite() {
        for (int op = 3; op <= 4; op++) {
            for (String infinite : new String[] {PLUS, MINUS}) {
                String opposite = infinite.equals(PLUS) ? MINUS : PLUS;
                EDGES.applyGives(op, infinite, PLUS, "NaN");
                EDGES.applyGives(op, infinite, MINUS, "NaN");
                EDGES.applyRefuses(op, infinite, "0", -4);
                EDGES.applyRefuses(op, infinite, "-0.00", -4);
                EDGES.applyGives(op, infinite, TINY, infinite);
                EDGES.applyGives(op, infinite, "-" + TINY, opposite);
                EDGES.applyGives(op, infinite, NINES, infinite);
                EDGES.applyGives(op, infinite, "-" + NINES, opposite);
                for (String finite : new String[] {"0", "0.00", "-2.50", "-" + Edges.MOST, TINY}) {
                    EDGES.applyGives(op, finite, infinite, "0");
                }
            }
        }
    }

    /** "infinite by the value 0 is a DIVISION BY ZERO; infinite by anything else gives NaN; finite by infinite a" */
    private static void remainderOfInfinite() {
        for (String infinite : new String[] {PLUS, MINUS}) {
            EDGES.applyRefuses(5, infinite, "0", -4);
            EDGES.applyRefuses(5, infinite, "0.000", -4);
            for (String other : new String[] {TINY, "-2.5", NINES, PLUS, MINUS}) {
                EDGES.applyGives(5, infinite, other, "NaN");
            }
            for (String finite : new String[] {"0", "0.00", "-2.50", Edges.MOST, "-" + TINY}) {
                EDGES.applyGives(5, finite, infinite, finite);
            }
        }
    }

    /** "DIVIDE, QUOTIENT and REMAINDER of finite numerals are a DIVISION BY ZERO when v is 0." */
    private static void divisionByZero() {
        for (int op = 3; op <= 5; op++) {
            for (String zero : new String[] {"0", "-0.0", "0e-24", "4e-25"}) {
                EDGES.applyRefuses(op, "0", zero, -4);
                EDGES.applyRefuses(op, "1.5", zero, -4);
                EDGES.applyRefuses(op, "-" + NINES, zero, -4);
            }
        }
        EDGES.applyGives(3, "3e-24", TINY, "3." + "0".repeat(24));
        EDGES.applyGives(4, "3e-24", TINY, "3");
        EDGES.applyGives(5, "3e-24", TINY, ZERO24);
        for (int op = 0; op <= 2; op++) {
            EDGES.applyGives(op, op == 2 ? "0" : "1.5", "0", op == 2 ? "0" : "1.5");
        }
    }

    /** "m, which is n, but -32 if n is less"; "the scale is m, but 0 if m is negative" */
    private static void numberBelowMinusThirtyTwo() {
        for (int n : new int[] {-32, -33, -34, -1000, Integer.MIN_VALUE}) {
            EDGES.adjustGives(0, "4" + "9".repeat(31), n, "0");
            EDGES.adjustRefuses(0, "5" + "0".repeat(31), n, -3);
            EDGES.adjustRefuses(0, "-" + Edges.MOST, n, -3);
            EDGES.adjustGives(1, Edges.MOST, n, "0");
            EDGES.adjustGives(1, "-0.00", n, "0");
        }
        EDGES.adjustGives(0, "5" + "0".repeat(30), -31, "1" + "0".repeat(31));
        EDGES.adjustGives(1, NINES, -31, "9" + "0".repeat(31));
        EDGES.adjustGives(1, "99.99", -1, "90");
        EDGES.adjustGives(1, "99.99", 0, "99");
        EDGES.adjustGives(1, "99.99", 1, "99.9");
    }

    /** "and 24 if n is greater" */
    private static void numberAboveTwentyFour() {
        for (int n : new int[] {24, 25, 26, 1000, Integer.MAX_VALUE}) {
            for (int op = 0; op <= 1; op++) {
                EDGES.adjustGives(op, "1.5", n, "1.5" + "0".repeat(23));
                EDGES.adjustGives(op, "0", n, ZERO24);
                EDGES.adjustGives(op, "-" + TINY, n, "-" + TINY);
                EDGES.adjustGives(op, Edges.MOST, n, Edges.MOST);
            }
        }
        EDGES.adjustGives(0, "1.5", 23, "1.5" + "0".repeat(22));
        EDGES.adjustGives(0, "5e-24", 23, "0." + "0".repeat(22) + "1");
        EDGES.adjustGives(1, "9e-24", 23, "0." + "0".repeat(23));
    }

    /** "n is looked at by 0 and 1 only; any n will do" */
    private static void numberThatIsNotLookedAt() {
        String[] texts = {"", "", "-2", "-3", "2.50", "-2.5"};
        for (int n : new int[] {Integer.MIN_VALUE, -33, -1, 0, 1, 25, Integer.MAX_VALUE}) {
            for (int op = 2; op <= 5; op++) {
                EDGES.adjustGives(op, "-2.50", n, texts[op]);
            }
            EDGES.adjustGives(6, "6.25", n, "2.5" + "0".repeat(15));
            EDGES.adjustRefuses(6, "-2.50", n, -5);
            for (int op = 0; op <= 6; op++) {
                EDGES.adjustGives(op, "NaN", n, "NaN");
                EDGES.adjustGives(op, PLUS, n, op == 4 ? MINUS : PLUS);
            }
        }
    }

    /** "the least whole number not below u", "the greatest whole number not above u" */
    private static void ceilingAndFloor() {
        String least = TINY.substring(1);
        String all = "." + "9".repeat(24);
        EDGES.adjustGives(2, "3" + ".000", 0, "3");
        EDGES.adjustGives(2, "3" + least, 0, "4");
        EDGES.adjustGives(2, "3" + all, 0, "4");
        EDGES.adjustGives(2, "-3" + least, 0, "-3");
        EDGES.adjustGives(2, "-3" + all, 0, "-3");
        EDGES.adjustGives(2, "-4", 0, "-4");
        EDGES.adjustGives(2, TINY, 0, "1");
        EDGES.adjustGives(2, "9999.1", 0, "10000");
        EDGES.adjustGives(3, "3.000", 0, "3");
        EDGES.adjustGives(3, "3" + least, 0, "3");
        EDGES.adjustGives(3, "3" + all, 0, "3");
        EDGES.adjustGives(3, "-3" + least, 0, "-4");
        EDGES.adjustGives(3, "-3" + all, 0, "-4");
        EDGES.adjustGives(3, "-4.0", 0, "-4");
        EDGES.adjustGives(3, "-" + TINY, 0, "-1");
        EDGES.adjustGives(3, "-9999.1", 0, "-10000");
        EDGES.adjustGives(2, "0.00", 0, "0");
        EDGES.adjustGives(3, "0.00", 0, "0");
    }

    /** "-u, the same scale" */
    private static void negateKeepsTheScale() {
        EDGES.adjustGives(4, "1.50", 0, "-1.50");
        EDGES.adjustGives(4, "-1", 0, "1");
        EDGES.adjustGives(4, "-" + TINY, 0, TINY);
        EDGES.adjustGives(4, "0e-24", 0, ZERO24);
    }

    /** "the least scale of which u is a whole multiple of 10^-scale" */
    private static void trimToTheLeastScale() {
        EDGES.adjustGives(5, "1." + "0".repeat(24), 0, "1");
        EDGES.adjustGives(5, "1.1" + "0".repeat(23), 0, "1.1");
        EDGES.adjustGives(5, TINY, 0, TINY);
        EDGES.adjustGives(5, "-1" + "0".repeat(31), 0, "-1" + "0".repeat(31));
        EDGES.adjustGives(5, ZERO24, 0, "0");
        EDGES.adjustGives(5, "0.00010", 0, "0.0001");
        EDGES.adjustGives(5, "0.10000", 0, "0.1");
        EDGES.adjustGives(5, "1000.00", 0, "1000");
        EDGES.adjustGives(5, "1000", 0, "1000");
    }

    /** "the square root of u rounded at the scale" */
    private static void rootAndItsScale() {
        EDGES.adjustGives(6, "2", 0, "1.4142135623730950");
        EDGES.adjustGives(6, "2." + "0".repeat(24), 0, "1.414213562373095048801689");
        EDGES.adjustGives(6, "152399025", 0, "12345." + "0".repeat(12));
        EDGES.adjustGives(6, TINY, 0, "0.000000000001" + "0".repeat(12));
        EDGES.adjustGives(6, "2e-24", 0, "0.000000000001414213562373");
        EDGES.adjustGives(6, "3e-24", 0, "0.000000000001732050807569");
        EDGES.adjustGives(6, "9".repeat(31), 0, "3162277660168379.33");
        EDGES.adjustGives(6, NINES, 0, "1" + "0".repeat(16) + ".00");
        // Behind the scale the root goes on with 4999999: it is not rounded up.
        EDGES.adjustGives(6, "99999999", 0, "9999.99994999999987");
    }

    /** The root is found four digits at a time: each of these numbers, before the point and behind it. */
    private static void rootOfEachFourDigits() {
        for (long number = 0; number <= 9999; number++) {
            BigDecimal root = new BigDecimal(number).add(new BigDecimal(number).movePointLeft(4));
            ScaledNumeralDesk desk = new ScaledNumeralDesk();
            Checks.enter(desk, 0, root.multiply(root).toPlainString());
            EDGES.same("root for " + root, desk.adjust(6, 1, 0, 0), 0);
            String text = root.setScale(desk.scale(1)).toPlainString();
            EDGES.same("text of the root for " + root, Checks.text(desk, 1), text);
        }
    }

    /** "ROOT of MINUS or of a value below 0 is OUTSIDE." */
    private static void rootOutside() {
        for (String negative : new String[] {"-" + TINY, "-1", "-4.00", "-" + Edges.MOST, MINUS}) {
            EDGES.adjustRefuses(6, negative, 0, -5);
        }
        EDGES.adjustGives(6, "-0", 0, "0." + "0".repeat(16));
        EDGES.adjustGives(6, "-4e-25", 0, ZERO24);
        EDGES.adjustGives(6, "NaN", 0, "NaN");
        EDGES.adjustGives(6, PLUS, 0, PLUS);
    }

    /** "0 to 3 and 5 leave NaN, PLUS and MINUS as they are; NEGATE leaves NaN, and makes PLUS of MINUS ..." */
    private static void adjustOfOthers() {
        for (int op : new int[] {0, 1, 2, 3, 5}) {
            for (String other : new String[] {"NaN", PLUS, MINUS}) {
                for (int n : new int[] {-40, 0, 30}) {
                    EDGES.adjustGives(op, other, n, other);
                }
            }
        }
        EDGES.adjustGives(4, "NaN", 0, "NaN");
        EDGES.adjustGives(4, MINUS, 0, PLUS);
        EDGES.adjustGives(4, PLUS, 0, MINUS);
    }

    /** "A register that gets a result may be one of those that are worked on." */
    private static void applyOnItsOwnRegisters() {
        String[] values = {"7.50", "-2.5", "10000.25", PLUS, MINUS, "NaN"};
        for (int op = 0; op <= 5; op++) {
            int o = op;
            for (String a : values) {
                for (String b : values) {
                    ScaledNumeralDesk apart = Edges.after(Scene.of(a, b), desk -> desk.apply(o, 2, 0, 1));
                    String text = Checks.text(apart, 2);
                    EDGES.gives("d is a: " + op + a + b, Scene.of(a, b), desk -> desk.apply(o, 0, 0, 1), 0, text);
                    EDGES.gives("d is b: " + op + a + b, Scene.of(a, b), desk -> desk.apply(o, 1, 0, 1), 1, text);
                }
                ScaledNumeralDesk apart = Edges.after(Scene.of(a, a), desk -> desk.apply(o, 2, 0, 1));
                String text = Checks.text(apart, 2);
                EDGES.gives("a is b: " + op + a, Scene.of(a), desk -> desk.apply(o, 2, 0, 0), 2, text);
                EDGES.gives("d is a and b: " + op + a, Scene.of(a), desk -> desk.apply(o, 0, 0, 0), 0, text);
            }
        }
        EDGES.gives("half of itself", Scene.of("9.5", "2"), desk -> desk.apply(3, 0, 0, 1), 0, "4.7500000000000000");
        EDGES.gives("square of itself", Scene.of("-9.5"), desk -> desk.apply(2, 0, 0, 0), 0, "90.25");
        EDGES.gives("rest into b", Scene.of("9.5", "2"), desk -> desk.apply(5, 1, 0, 1), 1, "1.5");
    }

    private static void adjustOnItsOwnRegister() {
        String[] texts = {"152.3", "152.2", "153", "152", "-152.2750", "152.275", "12.3399756887929078"};
        for (int op = 0; op <= 6; op++) {
            int o = op;
            EDGES.gives("adjust itself " + op, Scene.of("152.2750"), desk -> desk.adjust(o, 0, 0, 1), 0, texts[op]);
        }
        EDGES.gives("negate MINUS", Scene.of(MINUS), desk -> desk.adjust(4, 0, 0, 1), 0, PLUS);
    }

    /** "A call that is refused ... changes nothing", also when the result would go to a register that is worked on. */
    private static void refusedOnItsOwnRegister() {
        for (int op = 3; op <= 5; op++) {
            int o = op;
            EDGES.answers("x by 0 to a", Scene.of("1.5", "0.0"), desk -> desk.apply(o, 0, 0, 1), -4);
            EDGES.answers("x by 0 to b", Scene.of("1.5", "0.0"), desk -> desk.apply(o, 1, 0, 1), -4);
            EDGES.answers("0 by 0 to both", Scene.of("0.0"), desk -> desk.apply(o, 0, 0, 0), -4);
        }
        EDGES.answers("double of the greatest", Scene.of(Edges.MOST), desk -> desk.apply(0, 0, 0, 0), -3);
        EDGES.answers("square of the greatest", Scene.of(Edges.MOST), desk -> desk.apply(2, 0, 0, 0), -3);
        EDGES.answers("quotient to a", Scene.of("1e8", TINY), desk -> desk.apply(4, 0, 0, 1), -3);
        EDGES.answers("division to b", Scene.of("1e8", TINY), desk -> desk.apply(3, 1, 0, 1), -3);
        EDGES.answers("round itself", Scene.of(Edges.MOST), desk -> desk.adjust(0, 0, 0, 3), -3);
        EDGES.answers("ceiling of itself", Scene.of(Edges.MOST), desk -> desk.adjust(2, 0, 0, 3), -3);
        EDGES.answers("root of itself", Scene.of("-1.50"), desk -> desk.adjust(6, 0, 0, 3), -5);
        EDGES.answers("root of MINUS", Scene.of(MINUS), desk -> desk.adjust(6, 0, 0, 3), -5);
    }
}
