import java.util.Arrays;

/**
 * Eight registers of decimal numerals with display scales, arithmetic on them, and four running sums.
 *
 * Every value is kept as a whole number of units of 10^-24 in limbs of four decimal digits, least limb
 * first: the point then always lies between two limbs, and WEIGHT and LEAD can be read off the top limb.
 */
public final class ScaledNumeralDesk {
    private static final int REGISTERS = 8;
    private static final int SUMS = 4;

    private static final int DONE = 0;
    private static final int NO_SUCH = -1;
    private static final int NO_NUMERAL_TEXT = -2;
    private static final int NOT_COMPARED = -2;
    private static final int FULL = -2;
    private static final int TOO_LARGE = -3;
    private static final int DIVISION_BY_ZERO = -4;
    private static final int OUTSIDE = -5;
    private static final int NOTHING_THERE = -6;

    private static final int BASE = 10000;
    private static final int LIMB_DIGITS = 4;
    private static final int[] TENS = {1, 10, 100, 1000};

    private static final int MOST_PLACES = 24;
    private static final int WHOLE_DIGITS = 32;
    private static final int MOST_DIGITS = MOST_PLACES + WHOLE_DIGITS;
    private static final int FRACTION_LIMBS = MOST_PLACES / LIMB_DIGITS;
    // One limb more than a numeral needs, for a sum may reach 1000 times the greatest numeral.
    private static final int LIMBS = MOST_DIGITS / LIMB_DIGITS + 1;
    private static final int WIDE_LIMBS = 2 * LIMBS;

    private final Numeral[] registers;
    private final Sum[] sums;
    private final Buffer buffer;
    private final Bench bench;
    // Results are made here and copied when they stand, so that a refused call changes no register.
    private final Numeral outcome;
    private final Numeral dividend;
    private final Numeral divisor;

    public ScaledNumeralDesk() {
        registers = new Numeral[REGISTERS];
        for (int r = 0; r < REGISTERS; r++) {
            registers[r] = new Numeral();
        }
        sums = new Sum[SUMS];
        for (int k = 0; k < SUMS; k++) {
            sums[k] = new Sum();
        }
        buffer = new Buffer();
        bench = new Bench();
        outcome = new Numeral();
        dividend = new Numeral();
        divisor = new Numeral();
    }

    public boolean type(char c) {
        return buffer.append(c);
    }

    public int enter(int r) {
        if (!isRegister(r)) {
            return NO_SUCH;
        }
        int answer = buffer.readInto(outcome);
        buffer.empty();
        return store(r, answer);
    }

    public int length(int r) {
        return isRegister(r) ? registers[r].textLength() : NO_SUCH;
    }

    public int character(int r, int i) {
        if (!isRegister(r) || i < 0 || i >= registers[r].textLength()) {
            return NO_SUCH;
        }
        return registers[r].textCharacter(i);
    }

    public int scale(int r) {
        if (!isRegister(r) || !registers[r].isFinite()) {
            return NO_SUCH;
        }
        return registers[r].places;
    }

    public int apply(int op, int d, int a, int b) {
        if (op < Bench.ADD || op > Bench.REMAINDER || !isRegister(d) || !isRegister(a) || !isRegister(b)) {
            return NO_SUCH;
        }
        return store(d, bench.combine(op, registers[a], registers[b], outcome));
    }

    public int adjust(int op, int d, int a, int n) {
        if (op < Bench.ROUND || op > Bench.ROOT || !isRegister(d) || !isRegister(a)) {
            return NO_SUCH;
        }
        return store(d, bench.alter(op, registers[a], n, outcome));
    }

    public int fit(int r, int precision, int scale) {
        if (!isRegister(r) || precision < 1 || precision > MOST_DIGITS
                || scale < -WHOLE_DIGITS || scale > MOST_PLACES) {
            return NO_SUCH;
        }
        Numeral numeral = registers[r];
        if (numeral.kind == Kind.NAN) {
            return DONE;
        }
        if (!numeral.isFinite()) {
            return TOO_LARGE;
        }
        outcome.take(numeral);
        outcome.roundAt(scale);
        if (outcome.amount.reachesTenTo(precision - scale) || outcome.isTooLarge()) {
            return TOO_LARGE;
        }
        return store(r, DONE);
    }

    public int compare(int a, int b) {
        if (!isRegister(a) || !isRegister(b)) {
            return NOT_COMPARED;
        }
        return registers[a].comparedWith(registers[b]);
    }

    public int accept(int k, int r) {
        if (!isSum(k) || !isRegister(r)) {
            return NO_SUCH;
        }
        return sums[k].putIn(registers[r]);
    }

    public int discard(int k, int r) {
        if (!isSum(k) || !isRegister(r)) {
            return NO_SUCH;
        }
        return sums[k].takeOut(registers[r]);
    }

    public int merge(int k, int j) {
        if (!isSum(k) || !isSum(j)) {
            return NO_SUCH;
        }
        return sums[k].join(sums[j]);
    }

    public boolean reset(int k) {
        if (!isSum(k)) {
            return false;
        }
        sums[k].clear();
        return true;
    }

    public int count(int k) {
        return isSum(k) ? sums[k].members() : NO_SUCH;
    }

    public int total(int d, int k) {
        if (!isRegister(d) || !isSum(k)) {
            return NO_SUCH;
        }
        return store(d, sums[k].resultInto(outcome));
    }

    public int average(int d, int k) {
        if (!isRegister(d) || !isSum(k)) {
            return NO_SUCH;
        }
        int answer = sums[k].resultInto(outcome);
        if (answer == DONE && outcome.isFinite()) {
            dividend.take(outcome);
            divisor.becomeSmall(sums[k].members());
            answer = bench.combine(Bench.DIVIDE, dividend, divisor, outcome);
        }
        return store(d, answer);
    }

    private static boolean isRegister(int r) {
        return r >= 0 && r < REGISTERS;
    }

    private static boolean isSum(int k) {
        return k >= 0 && k < SUMS;
    }

    private int store(int d, int answer) {
        if (answer == DONE) {
            registers[d].take(outcome);
        }
        return answer;
    }

    /** The kinds of numerals, with their rank in comparisons and the text of those that are not finite. */
    private enum Kind {
        MINUS(0, "-Infinity"),
        FINITE(1, ""),
        PLUS(2, "Infinity"),
        NAN(3, "NaN");

        final int rank;
        final String text;

        Kind(int rank, String text) {
            this.rank = rank;
            this.text = text;
        }
    }

    /** Arithmetic without signs on rows of limbs. */
    private static final class Row {
        static int topLimb(int[] row) {
            int top = row.length - 1;
            while (top >= 0 && row[top] == 0) {
                top--;
            }
            return top;
        }

        static int digits(int[] row) {
            int top = topLimb(row);
            if (top < 0) {
                return 0;
            }
            int digits = top * LIMB_DIGITS + 1;
            for (int i = 1; i < LIMB_DIGITS && row[top] >= TENS[i]; i++) {
                digits++;
            }
            return digits;
        }

        static int digitAt(int[] row, int place) {
            if (place < 0 || place >= row.length * LIMB_DIGITS) {
                return 0;
            }
            return row[place / LIMB_DIGITS] / TENS[place % LIMB_DIGITS] % 10;
        }

        static void cut(int[] row, int dropped) {
            if (dropped <= 0) {
                return;
            }
            int limbs = Math.min(dropped / LIMB_DIGITS, row.length);
            for (int i = 0; i < limbs; i++) {
                row[i] = 0;
            }
            if (limbs < row.length) {
                row[limbs] -= row[limbs] % TENS[dropped % LIMB_DIGITS];
            }
        }

        static void roundOff(int[] row, int dropped) {
            boolean up = digitAt(row, dropped - 1) >= 5;
            cut(row, dropped);
            if (up) {
                addOneAt(row, dropped);
            }
        }

        static void addOneAt(int[] row, int place) {
            if (place < 0) {
                return;
            }
            int carry = TENS[place % LIMB_DIGITS];
            for (int i = place / LIMB_DIGITS; i < row.length && carry > 0; i++) {
                int sum = row[i] + carry;
                carry = sum / BASE;
                row[i] = sum % BASE;
            }
        }

        static void add(int[] row, int[] other) {
            int carry = 0;
            for (int i = 0; i < row.length && i < other.length; i++) {
                int sum = row[i] + other[i] + carry;
                carry = sum / BASE;
                row[i] = sum % BASE;
            }
        }

        /** The greater less the smaller, into a row that may be either of them. */
        static void subtract(int[] into, int[] greater, int[] smaller) {
            int borrow = 0;
            for (int i = 0; i < into.length && i < greater.length && i < smaller.length; i++) {
                int difference = greater[i] - smaller[i] - borrow;
                borrow = difference < 0 ? 1 : 0;
                into[i] = difference + borrow * BASE;
            }
        }

        static int order(int[] row, int[] other) {
            for (int i = Math.min(row.length, other.length) - 1; i >= 0; i--) {
                if (row[i] != other[i]) {
                    return row[i] < other[i] ? -1 : 1;
                }
            }
            return 0;
        }

        /** A row times one limb, moved up by some limbs. */
        static void multiplyByLimb(int[] product, int[] row, int limb, int shift) {
            Arrays.fill(product, 0);
            addMultiple(product, row, limb, shift);
        }

        static void multiply(int[] product, int[] row, int[] other) {
            Arrays.fill(product, 0);
            for (int i = 0; i < other.length; i++) {
                if (other[i] != 0) {
                    addMultiple(product, row, other[i], i);
                }
            }
        }

        private static void addMultiple(int[] row, int[] other, int limb, int shift) {
            int carry = 0;
            for (int i = shift; i < row.length; i++) {
                int factor = i - shift < other.length ? other[i - shift] : 0;
                int sum = row[i] + factor * limb + carry;
                carry = sum / BASE;
                row[i] = sum % BASE;
            }
        }

        /** Long division: the quotient goes to a row of its own, the remainder stays in rest. */
        static void divide(int[] rest, int[] quotient, int[] divisor) {
            Arrays.fill(quotient, 0);
            int top = topLimb(divisor);
            if (top < 0) {
                return;
            }
            // Three limbs of the divisor, plus one, make a guess that is right or one too small.
            long guide = head(divisor, top, 3) + 1;
            for (int shift = topLimb(rest) - top; shift >= 0; shift--) {
                int limb = (int) (head(rest, shift + top + 1, 4) / guide);
                takeMultiple(rest, divisor, limb, shift, top);
                if (isStillIn(rest, divisor, shift, top)) {
                    takeMultiple(rest, divisor, 1, shift, top);
                    limb++;
                }
                quotient[shift] = limb;
            }
        }

        /** The number that some limbs from the top one down make, as if zeros stood behind the row. */
        private static long head(int[] row, int top, int limbs) {
            long head = 0;
            for (int i = top; i > top - limbs; i--) {
                head = head * BASE + (i >= 0 && i < row.length ? row[i] : 0);
            }
            return head;
        }

        private static void takeMultiple(int[] rest, int[] divisor, int limb, int shift, int top) {
            int carry = 0;
            for (int i = 0; i <= top; i++) {
                int difference = rest[shift + i] - divisor[i] * limb + carry;
                carry = Math.floorDiv(difference, BASE);
                rest[shift + i] = difference - carry * BASE;
            }
            if (shift + top + 1 < rest.length) {
                rest[shift + top + 1] += carry;
            }
        }

        private static boolean isStillIn(int[] rest, int[] divisor, int shift, int top) {
            if (shift + top + 1 < rest.length && rest[shift + top + 1] > 0) {
                return true;
            }
            for (int i = top; i >= 0; i--) {
                if (rest[shift + i] != divisor[i]) {
                    return rest[shift + i] > divisor[i];
                }
            }
            return true;
        }
    }

    /** A value with its sign: 0 is never negative. */
    private static final class Amount {
        final int[] limbs = new int[LIMBS];
        boolean negative;

        void clear() {
            Arrays.fill(limbs, 0);
            negative = false;
        }

        void take(Amount other) {
            System.arraycopy(other.limbs, 0, limbs, 0, LIMBS);
            negative = other.negative;
        }

        boolean isZero() {
            return Row.topLimb(limbs) < 0;
        }

        int sign() {
            if (isZero()) {
                return 0;
            }
            return negative ? -1 : 1;
        }

        void signAs(boolean minus) {
            negative = minus && !isZero();
        }

        /** Adds another amount, or takes it away; the other one may be this one. */
        void increase(Amount other, boolean takeAway) {
            boolean minus = other.negative != takeAway;
            if (minus == negative) {
                Row.add(limbs, other.limbs);
            } else if (Row.order(limbs, other.limbs) >= 0) {
                Row.subtract(limbs, limbs, other.limbs);
                minus = negative;
            } else {
                Row.subtract(limbs, other.limbs, limbs);
            }
            signAs(minus);
        }

        int comparedWith(Amount other) {
            if (negative != other.negative) {
                return negative ? -1 : 1;
            }
            int order = Row.order(limbs, other.limbs);
            return negative ? -order : order;
        }

        boolean reachesTenTo(int power) {
            return Row.digits(limbs) > MOST_PLACES + power;
        }

        int weight() {
            int top = Row.topLimb(limbs);
            return top < 0 ? 0 : top - FRACTION_LIMBS;
        }

        int lead() {
            int top = Row.topLimb(limbs);
            return top < 0 ? 0 : limbs[top];
        }
    }

    /** What a register holds. */
    private static final class Numeral {
        Kind kind = Kind.FINITE;
        int places;
        final Amount amount = new Amount();

        boolean isFinite() {
            return kind == Kind.FINITE;
        }

        void take(Numeral other) {
            kind = other.kind;
            places = other.places;
            amount.take(other.amount);
        }

        void become(Kind other) {
            kind = other;
            places = 0;
            amount.clear();
        }

        void becomeInfinite(int sign) {
            become(sign < 0 ? Kind.MINUS : Kind.PLUS);
        }

        /** A whole number of one limb. */
        void becomeSmall(int whole) {
            become(Kind.FINITE);
            amount.limbs[FRACTION_LIMBS] = whole;
        }

        int sign() {
            if (isFinite()) {
                return amount.sign();
            }
            return kind == Kind.MINUS ? -1 : 1;
        }

        boolean isZero() {
            return isFinite() && amount.isZero();
        }

        boolean isTooLarge() {
            return amount.reachesTenTo(WHOLE_DIGITS);
        }

        void roundAt(int place) {
            Row.roundOff(amount.limbs, MOST_PLACES - place);
            keepSignAndPlaces(place);
        }

        void truncateAt(int place) {
            Row.cut(amount.limbs, MOST_PLACES - place);
            keepSignAndPlaces(place);
        }

        private void keepSignAndPlaces(int place) {
            amount.signAs(amount.negative);
            places = Math.max(place, 0);
        }

        /** Away from 0 if the value has a fraction and the sign asked for, otherwise towards 0. */
        void makeWhole(boolean awayIfNegative) {
            boolean minus = amount.negative;
            boolean away = minus == awayIfNegative && hasFraction();
            truncateAt(0);
            if (away) {
                Row.addOneAt(amount.limbs, MOST_PLACES);
                amount.signAs(minus);
            }
        }

        private boolean hasFraction() {
            for (int i = 0; i < FRACTION_LIMBS; i++) {
                if (amount.limbs[i] != 0) {
                    return true;
                }
            }
            return false;
        }

        void trim() {
            while (places > 0 && Row.digitAt(amount.limbs, MOST_PLACES - places) == 0) {
                places--;
            }
        }

        int comparedWith(Numeral other) {
            if (isFinite() && other.isFinite()) {
                return amount.comparedWith(other.amount);
            }
            return Integer.signum(kind.rank - other.kind.rank);
        }

        int textLength() {
            if (!isFinite()) {
                return kind.text.length();
            }
            int signs = amount.negative ? 1 : 0;
            return signs + wholeDigits() + (places > 0 ? 1 + places : 0);
        }

        /** The character at a place that is known to lie in the text. */
        int textCharacter(int i) {
            if (!isFinite()) {
                return kind.text.charAt(i);
            }
            if (amount.negative && i == 0) {
                return '-';
            }
            int fromPoint = wholeDigits() - (amount.negative ? i - 1 : i);
            if (fromPoint == 0) {
                return '.';
            }
            // The point takes a place of the text but none of the digits.
            int place = fromPoint > 0 ? fromPoint - 1 : fromPoint;
            return '0' + Row.digitAt(amount.limbs, MOST_PLACES + place);
        }

        private int wholeDigits() {
            return Math.max(Row.digits(amount.limbs) - MOST_PLACES, 1);
        }
    }

    /** The operations of apply and adjust, with the rows that they work in. */
    private static final class Bench {
        static final int ADD = 0;
        static final int SUBTRACT = 1;
        static final int MULTIPLY = 2;
        static final int DIVIDE = 3;
        static final int QUOTIENT = 4;
        static final int REMAINDER = 5;

        static final int ROUND = 0;
        static final int TRUNCATE = 1;
        static final int CEILING = 2;
        static final int FLOOR = 3;
        static final int NEGATE = 4;
        static final int TRIM = 5;
        static final int ROOT = 6;

        // One limb behind the 24th place is enough: the next digit alone decides how a magnitude is rounded.
        private static final int GUARDED_LIMBS = FRACTION_LIMBS + 1;
        private static final int ROOT_LIMBS = GUARDED_LIMBS + WHOLE_DIGITS / LIMB_DIGITS / 2;
        private static final int HIGHEST_LIMB_BIT = 8192;

        private final int[] rest = new int[WIDE_LIMBS];
        private final int[] answer = new int[WIDE_LIMBS];
        private final int[] doubled = new int[WIDE_LIMBS];
        private final int[] trial = new int[WIDE_LIMBS];

        int combine(int op, Numeral a, Numeral b, Numeral out) {
            if (a.kind == Kind.NAN || b.kind == Kind.NAN) {
                out.become(Kind.NAN);
                return DONE;
            }
            boolean finite = a.isFinite() && b.isFinite();
            switch (op) {
                case ADD:
                case SUBTRACT:
                    return finite ? add(a, b, op == SUBTRACT, out) : addInfinite(a, b, op == SUBTRACT, out);
                case MULTIPLY:
                    return finite ? multiply(a, b, out) : multiplyInfinite(a, b, out);
                default:
                    return b.isZero() ? DIVISION_BY_ZERO : share(op, a, b, finite, out);
            }
        }

        private int share(int op, Numeral a, Numeral b, boolean finite, Numeral out) {
            switch (op) {
                case DIVIDE:
                    return finite ? divide(a, b, out) : divideInfinite(a, b, out);
                case QUOTIENT:
                    return finite ? quotient(a, b, out) : divideInfinite(a, b, out);
                default:
                    return finite ? remainder(a, b, out) : remainderInfinite(a, out);
            }
        }

        private int add(Numeral a, Numeral b, boolean takeAway, Numeral out) {
            out.take(a);
            out.amount.increase(b.amount, takeAway);
            out.places = Math.max(a.places, b.places);
            return judged(out);
        }

        private int addInfinite(Numeral a, Numeral b, boolean takeAway, Numeral out) {
            int left = a.isFinite() ? 0 : a.sign();
            int right = b.isFinite() ? 0 : b.sign();
            int sign = takeAway ? left - right : left + right;
            if (sign == 0) {
                out.become(Kind.NAN);
            } else {
                out.becomeInfinite(sign);
            }
            return DONE;
        }

        private int multiply(Numeral a, Numeral b, Numeral out) {
            Row.multiply(answer, a.amount.limbs, b.amount.limbs);
            int places = Math.min(a.places + b.places, MOST_PLACES);
            return settle(answer, 2 * FRACTION_LIMBS, places, a.amount.negative != b.amount.negative, out);
        }

        private int multiplyInfinite(Numeral a, Numeral b, Numeral out) {
            int sign = a.sign() * b.sign();
            if (sign == 0) {
                out.become(Kind.NAN);
            } else {
                out.becomeInfinite(sign);
            }
            return DONE;
        }

        private int divide(Numeral a, Numeral b, Numeral out) {
            load(a, GUARDED_LIMBS);
            Row.divide(rest, answer, b.amount.limbs);
            return settle(answer, GUARDED_LIMBS, placesOfDivision(a, b),
                    a.amount.negative != b.amount.negative, out);
        }

        private static int placesOfDivision(Numeral a, Numeral b) {
            int weight = a.amount.weight() - b.amount.weight();
            if (a.amount.lead() <= b.amount.lead()) {
                weight--;
            }
            int places = Math.max(16 - 4 * weight, Math.max(a.places, b.places));
            return Math.min(places, MOST_PLACES);
        }

        private int divideInfinite(Numeral a, Numeral b, Numeral out) {
            if (a.isFinite()) {
                out.become(Kind.FINITE);
            } else if (b.isFinite()) {
                out.becomeInfinite(a.sign() * b.sign());
            } else {
                out.become(Kind.NAN);
            }
            return DONE;
        }

        private int quotient(Numeral a, Numeral b, Numeral out) {
            load(a, FRACTION_LIMBS);
            Row.divide(rest, answer, b.amount.limbs);
            Row.cut(answer, MOST_PLACES);
            return settle(answer, FRACTION_LIMBS, 0, a.amount.negative != b.amount.negative, out);
        }

        private int remainder(Numeral a, Numeral b, Numeral out) {
            load(a, 0);
            Row.divide(rest, answer, b.amount.limbs);
            return settle(rest, FRACTION_LIMBS, Math.max(a.places, b.places), a.amount.negative, out);
        }

        private int remainderInfinite(Numeral a, Numeral out) {
            if (a.isFinite()) {
                out.take(a);
            } else {
                out.become(Kind.NAN);
            }
            return DONE;
        }

        int alter(int op, Numeral a, int n, Numeral out) {
            if (op == ROOT && a.sign() < 0) {
                return OUTSIDE;
            }
            out.take(a);
            if (!a.isFinite()) {
                return alterOther(op, out);
            }
            int place = Math.max(-WHOLE_DIGITS, Math.min(n, MOST_PLACES));
            switch (op) {
                case ROUND:
                    out.roundAt(place);
                    break;
                case TRUNCATE:
                    out.truncateAt(place);
                    break;
                case CEILING:
                    out.makeWhole(false);
                    break;
                case FLOOR:
                    out.makeWhole(true);
                    break;
                case NEGATE:
                    out.amount.signAs(!a.amount.negative);
                    break;
                case TRIM:
                    out.trim();
                    break;
                default:
                    return root(a, out);
            }
            return judged(out);
        }

        private int alterOther(int op, Numeral out) {
            if (op == NEGATE && out.kind != Kind.NAN) {
                out.becomeInfinite(-out.sign());
            }
            return DONE;
        }

        private int root(Numeral a, Numeral out) {
            // A root has half as many limbs behind the point as what it is taken of.
            load(a, 2 * GUARDED_LIMBS - FRACTION_LIMBS);
            Arrays.fill(answer, 0);
            Arrays.fill(doubled, 0);
            for (int i = ROOT_LIMBS - 1; i >= 0; i--) {
                answer[i] = nextRootLimb(i);
            }
            int places = Math.max(16 - 2 * a.amount.weight(), a.places);
            return settle(answer, GUARDED_LIMBS, Math.min(places, MOST_PLACES), false, out);
        }

        /** Rest is what the limbs found so far leave; doubled is twice those limbs. */
        private int nextRootLimb(int i) {
            int limb = 0;
            for (int bit = HIGHEST_LIMB_BIT; bit > 0; bit /= 2) {
                if (limb + bit < BASE && rootLimbFits(i, limb + bit)) {
                    limb += bit;
                }
            }
            if (rootLimbFits(i, limb)) {
                Row.subtract(rest, rest, trial);
            }
            doubled[i] = 2 * limb % BASE;
            if (2 * limb >= BASE) {
                Row.addOneAt(doubled, (i + 1) * LIMB_DIGITS);
            }
            return limb;
        }

        private boolean rootLimbFits(int i, int limb) {
            doubled[i] = limb;
            Row.multiplyByLimb(trial, doubled, limb, i);
            return Row.order(trial, rest) <= 0;
        }

        private void load(Numeral a, int shift) {
            Arrays.fill(rest, 0);
            System.arraycopy(a.amount.limbs, 0, rest, shift, LIMBS);
        }

        /** Rounds a wide row with so many limbs behind the point, and makes it the value of a numeral. */
        private static int settle(int[] row, int behind, int places, boolean negative, Numeral out) {
            int digitsBehind = behind * LIMB_DIGITS;
            Row.roundOff(row, digitsBehind - places);
            if (Row.digits(row) > digitsBehind + WHOLE_DIGITS) {
                return TOO_LARGE;
            }
            out.become(Kind.FINITE);
            out.places = places;
            System.arraycopy(row, behind - FRACTION_LIMBS, out.amount.limbs, 0, LIMBS);
            out.amount.signAs(negative);
            return DONE;
        }

        private static int judged(Numeral out) {
            return out.isTooLarge() ? TOO_LARGE : DONE;
        }
    }

    /** The typed characters and the reading of them. */
    private static final class Buffer {
        private static final int ROOM = 80;
        private static final int MOST_EXPONENT_DIGITS = 3;
        // Three digits can't say this one.
        private static final int NO_EXPONENT = 1000;

        private final char[] characters = new char[ROOM];
        private int used;

        boolean append(char c) {
            if (used >= ROOM || c < 32 || c > 126) {
                return false;
            }
            characters[used] = c;
            used++;
            return true;
        }

        void empty() {
            used = 0;
        }

        int readInto(Numeral out) {
            if (isWordFrom(0, "nan")) {
                out.become(Kind.NAN);
                return DONE;
            }
            int start = isSignAt(0) ? 1 : 0;
            boolean negative = start == 1 && characters[0] == '-';
            if (isWordFrom(start, "infinity") || isWordFrom(start, "inf")) {
                out.becomeInfinite(negative ? -1 : 1);
                return DONE;
            }
            return readFinite(start, negative, out);
        }

        private int readFinite(int start, boolean negative, Numeral out) {
            int end = endOfDigits(start);
            int point = pointBetween(start, end);
            int digits = end - start - (point < end ? 1 : 0);
            int exponent = exponentFrom(end);
            if (digits == 0 || exponent == NO_EXPONENT) {
                return NO_NUMERAL_TEXT;
            }
            int behind = Math.max(end - point - 1, 0);
            int places = behind - exponent;
            out.become(Kind.FINITE);
            out.places = Math.max(0, Math.min(places, MOST_PLACES));
            boolean held = placeDigits(start, end, digits - 1 + MOST_PLACES - places, out.amount.limbs);
            out.amount.signAs(negative);
            return held && !out.isTooLarge() ? DONE : TOO_LARGE;
        }

        /** Puts the digits into a row, the first one at the given place; false when one is beyond any numeral. */
        private boolean placeDigits(int start, int end, int first, int[] limbs) {
            int place = first;
            boolean up = false;
            for (int i = start; i < end; i++) {
                if (characters[i] == '.') {
                    continue;
                }
                int digit = characters[i] - '0';
                if (place >= MOST_DIGITS && digit != 0) {
                    return false;
                }
                if (place >= 0 && place < MOST_DIGITS) {
                    limbs[place / LIMB_DIGITS] += digit * TENS[place % LIMB_DIGITS];
                }
                up = up || (place == -1 && digit >= 5);
                place--;
            }
            if (up) {
                Row.addOneAt(limbs, 0);
            }
            return true;
        }

        /** The first place that is neither a digit nor the first point. */
        private int endOfDigits(int start) {
            int end = start;
            boolean pointSeen = false;
            while (end < used && (isDigitAt(end) || (characters[end] == '.' && !pointSeen))) {
                pointSeen = pointSeen || characters[end] == '.';
                end++;
            }
            return end;
        }

        /** The place of the point, or the end if there is none. */
        private int pointBetween(int start, int end) {
            int point = start;
            while (point < end && characters[point] != '.') {
                point++;
            }
            return point;
        }

        private int exponentFrom(int start) {
            if (start == used) {
                return 0;
            }
            if (lower(characters[start]) != 'e') {
                return NO_EXPONENT;
            }
            int first = isSignAt(start + 1) ? start + 2 : start + 1;
            if (first >= used || used - first > MOST_EXPONENT_DIGITS) {
                return NO_EXPONENT;
            }
            int exponent = 0;
            for (int i = first; i < used; i++) {
                if (!isDigitAt(i)) {
                    return NO_EXPONENT;
                }
                exponent = exponent * 10 + characters[i] - '0';
            }
            return characters[start + 1] == '-' ? -exponent : exponent;
        }

        private boolean isWordFrom(int start, String word) {
            if (used - start != word.length()) {
                return false;
            }
            for (int i = 0; i < word.length(); i++) {
                if (lower(characters[start + i]) != word.charAt(i)) {
                    return false;
                }
            }
            return true;
        }

        private boolean isSignAt(int i) {
            return i < used && (characters[i] == '+' || characters[i] == '-');
        }

        private boolean isDigitAt(int i) {
            return i < used && characters[i] >= '0' && characters[i] <= '9';
        }

        private static int lower(char c) {
            return c >= 'A' && c <= 'Z' ? c - 'A' + 'a' : c;
        }
    }

    /** A running sum. */
    private static final class Sum {
        private static final int MOST = 1000;
        private static final int NANS = MOST_PLACES + 1;
        private static final int PLUSES = MOST_PLACES + 2;
        private static final int MINUSES = MOST_PLACES + 3;
        private static final int COUNTS = MOST_PLACES + 4;

        private final Amount value = new Amount();
        // The counts of the finite scales stand at 0 .. 24.
        private final int[] counts = new int[COUNTS];
        private int size;

        void clear() {
            value.clear();
            Arrays.fill(counts, 0);
            size = 0;
        }

        int putIn(Numeral numeral) {
            if (size >= MOST) {
                return FULL;
            }
            change(numeral, 1);
            return DONE;
        }

        int takeOut(Numeral numeral) {
            if (size >= MOST) {
                return FULL;
            }
            if (counts[countOf(numeral)] == 0) {
                return NOTHING_THERE;
            }
            change(numeral, -1);
            return DONE;
        }

        private void change(Numeral numeral, int by) {
            counts[countOf(numeral)] += by;
            if (numeral.isFinite()) {
                value.increase(numeral.amount, by < 0);
            }
            size++;
        }

        private static int countOf(Numeral numeral) {
            if (numeral.isFinite()) {
                return numeral.places;
            }
            if (numeral.kind == Kind.NAN) {
                return NANS;
            }
            return numeral.kind == Kind.PLUS ? PLUSES : MINUSES;
        }

        int join(Sum other) {
            if (size + other.size > MOST) {
                return FULL;
            }
            value.increase(other.value, false);
            for (int i = 0; i < COUNTS; i++) {
                counts[i] += other.counts[i];
            }
            size += other.size;
            return DONE;
        }

        int members() {
            int members = 0;
            for (int i = 0; i < COUNTS; i++) {
                members += counts[i];
            }
            return members;
        }

        int resultInto(Numeral out) {
            if (members() == 0) {
                return NOTHING_THERE;
            }
            boolean plus = counts[PLUSES] != 0;
            boolean minus = counts[MINUSES] != 0;
            if (counts[NANS] != 0 || (plus && minus)) {
                out.become(Kind.NAN);
                return DONE;
            }
            if (plus || minus) {
                out.becomeInfinite(minus ? -1 : 1);
                return DONE;
            }
            out.become(Kind.FINITE);
            out.amount.take(value);
            out.roundAt(greatestPlaces());
            return out.isTooLarge() ? TOO_LARGE : DONE;
        }

        private int greatestPlaces() {
            int places = MOST_PLACES;
            while (places > 0 && counts[places] == 0) {
                places--;
            }
            return places;
        }
    }
}
