import java.math.BigDecimal;
import java.math.BigInteger;
import java.math.RoundingMode;
import java.util.regex.Matcher;
import java.util.regex.Pattern;

/** The document once more, over BigDecimal and without care for speed or room, to compare the class with. */
final class Model {
    private static final BigDecimal LIMIT = BigDecimal.TEN.pow(32);
    private static final Pattern INFINITE = Pattern.compile("([+-]?)(infinity|inf)", Pattern.CASE_INSENSITIVE);
    private static final Pattern FINITE = Pattern.compile("([+-]?)([0-9]*)(\\.([0-9]*))?([eE]([+-]?[0-9]{1,3}))?");

    /** v is null unless the numeral is finite; other is then "NaN", "Infinity" or "-Infinity". */
    private static final class Num {
        final String other;
        final BigDecimal v;
        final int s;

        Num(String other) {
            this.other = other;
            v = null;
            s = -1;
        }

        Num(BigDecimal v, int s) {
            other = "";
            this.v = v;
            this.s = s;
        }

        boolean finite() {
            return v != null;
        }

        int sign() {
            return finite() ? v.signum() : other.startsWith("-") ? -1 : 1;
        }
    }

    private static final class Total {
        BigDecimal value = BigDecimal.ZERO;
        int size;
        final java.util.TreeMap<String, Integer> counts = new java.util.TreeMap<>();

        int of(String key) {
            return counts.getOrDefault(key, 0);
        }

        int members() {
            return counts.values().stream().mapToInt(Integer::intValue).sum();
        }
    }

    private static final Num NAN = new Num("NaN");
    private static final Num PLUS = new Num("Infinity");
    private static final Num MINUS = new Num("-Infinity");

    private final Num[] registers = new Num[8];
    private final Total[] sums = new Total[4];
    private String buffer = "";
    private int answer;

    Model() {
        java.util.Arrays.fill(registers, new Num(BigDecimal.ZERO, 0));
        for (int k = 0; k < 4; k++) {
            sums[k] = new Total();
        }
    }

    private static boolean register(int r) {
        return 0 <= r && r <= 7;
    }

    private static boolean sum(int k) {
        return 0 <= k && k <= 3;
    }

    private static Num infinite(int sign) {
        return sign < 0 ? MINUS : PLUS;
    }

    private Num refuse(int why) {
        answer = why;
        return null;
    }

    private Num finite(BigDecimal v, int s) {
        return v.abs().compareTo(LIMIT) >= 0 ? refuse(-3) : new Num(v, s);
    }

    private int put(int d, Num result) {
        if (result == null) {
            return answer;
        }
        registers[d] = result;
        return 0;
    }

    String text(int r) {
        Num n = registers[r];
        return n.finite() ? n.v.setScale(n.s, RoundingMode.UNNECESSARY).toPlainString() : n.other;
    }

    int scale(int r) {
        return register(r) ? registers[r].s : -1;
    }

    boolean type(char c) {
        if (buffer.length() == 80 || c < 32 || c > 126) {
            return false;
        }
        buffer += c;
        return true;
    }

    int enter(int r) {
        if (!register(r)) {
            return -1;
        }
        String text = buffer;
        buffer = "";
        return put(r, read(text));
    }

    private Num read(String text) {
        if (text.equalsIgnoreCase("NaN")) {
            return NAN;
        }
        Matcher m = INFINITE.matcher(text);
        if (m.matches()) {
            return infinite(m.group(1).equals("-") ? -1 : 1);
        }
        m = FINITE.matcher(text);
        if (!m.matches()) {
            return refuse(-2);
        }
        String behind = m.group(4) == null ? "" : m.group(4);
        String digits = m.group(2) + behind;
        if (digits.isEmpty()) {
            return refuse(-2);
        }
        int exponent = m.group(6) == null ? 0 : Integer.parseInt(m.group(6));
        BigDecimal v = new BigDecimal(new BigInteger(digits), behind.length() - exponent);
        int s = Math.max(0, behind.length() - exponent);
        if (s > 24) {
            s = 24;
            v = v.setScale(24, RoundingMode.HALF_UP);
        }
        return finite(m.group(1).equals("-") ? v.negate() : v, s);
    }

    private static int weight(BigDecimal v) {
        if (v.signum() == 0) {
            return 0;
        }
        int w = 0;
        while (power(w + 1).compareTo(v.abs()) <= 0) {
            w++;
        }
        while (power(w).compareTo(v.abs()) > 0) {
            w--;
        }
        return w;
    }

    private static BigDecimal power(int w) {
        return BigDecimal.ONE.scaleByPowerOfTen(4 * w);
    }

    private static int lead(BigDecimal v) {
        return v.abs().divide(power(weight(v)), 60, RoundingMode.DOWN).intValue();
    }

    int apply(int op, int d, int a, int b) {
        if (op < 0 || op > 5 || !register(d) || !register(a) || !register(b)) {
            return -1;
        }
        Num x = registers[a];
        Num y = registers[b];
        if (x == NAN || y == NAN) {
            return put(d, NAN);
        }
        if (op == 1) {
            y = y.finite() ? new Num(y.v.negate(), y.s) : infinite(-y.sign());
        }
        return put(d, x.finite() && y.finite() ? combine(op, x, y) : combineInfinite(op, x, y));
    }

    private Num combine(int op, Num x, Num y) {
        int s = Math.max(x.s, y.s);
        if (op <= 1) {
            return finite(x.v.add(y.v), s);
        }
        if (op == 2) {
            int scale = Math.min(24, x.s + y.s);
            return finite(x.v.multiply(y.v).setScale(scale, RoundingMode.HALF_UP), scale);
        }
        if (y.v.signum() == 0) {
            return refuse(-4);
        }
        if (op == 3) {
            return divide(x, y);
        }
        BigDecimal quotient = x.v.divide(y.v, 0, RoundingMode.DOWN);
        return op == 4 ? finite(quotient, 0) : finite(x.v.subtract(y.v.multiply(quotient)), s);
    }

    private Num divide(Num x, Num y) {
        int q = weight(x.v) - weight(y.v) - (lead(x.v) <= lead(y.v) ? 1 : 0);
        int scale = Math.min(24, Math.max(16 - 4 * q, Math.max(x.s, y.s)));
        return finite(x.v.divide(y.v, scale, RoundingMode.HALF_UP), scale);
    }

    private Num combineInfinite(int op, Num x, Num y) {
        if (op <= 1) {
            if (!x.finite() && !y.finite()) {
                return x == y ? x : NAN;
            }
            return x.finite() ? y : x;
        }
        if (op == 2) {
            return x.sign() * y.sign() == 0 ? NAN : infinite(x.sign() * y.sign());
        }
        if (y.finite() && y.v.signum() == 0) {
            return refuse(-4);
        }
        if (op == 5) {
            return x.finite() ? x : NAN;
        }
        if (x.finite()) {
            return new Num(BigDecimal.ZERO, 0);
        }
        return y.finite() ? infinite(x.sign() * y.sign()) : NAN;
    }

    int adjust(int op, int d, int a, int n) {
        if (op < 0 || op > 6 || !register(d) || !register(a)) {
            return -1;
        }
        Num x = registers[a];
        if (op == 6 && x != NAN && x.sign() < 0) {
            return -5;
        }
        if (!x.finite()) {
            return put(d, op == 4 && x != NAN ? infinite(-x.sign()) : x);
        }
        return put(d, alter(op, x, Math.max(-32, Math.min(24, n))));
    }

    private Num alter(int op, Num x, int m) {
        switch (op) {
            case 0:
                return finite(x.v.setScale(m, RoundingMode.HALF_UP), Math.max(0, m));
            case 1:
                return finite(x.v.setScale(m, RoundingMode.DOWN), Math.max(0, m));
            case 2:
                return finite(x.v.setScale(0, RoundingMode.CEILING), 0);
            case 3:
                return finite(x.v.setScale(0, RoundingMode.FLOOR), 0);
            case 4:
                return finite(x.v.negate(), x.s);
            case 5:
                return finite(x.v, x.v.signum() == 0 ? 0 : Math.max(0, x.v.stripTrailingZeros().scale()));
            default:
                return root(x);
        }
    }

    private Num root(Num x) {
        int scale = Math.min(24, Math.max(16 - 2 * weight(x.v), x.s));
        // The root is k units if k - 1/2 <= root < k + 1/2, that is (2k - 1)^2 <= 4 * value < (2k + 1)^2.
        BigInteger four = x.v.scaleByPowerOfTen(2 * scale).multiply(BigDecimal.valueOf(4))
                .setScale(0, RoundingMode.DOWN).toBigInteger();
        BigInteger k = four.sqrt().add(BigInteger.ONE).shiftRight(1);
        return finite(new BigDecimal(k, scale), scale);
    }

    int fit(int r, int precision, int scale) {
        if (!register(r) || precision < 1 || precision > 56 || scale < -32 || scale > 24) {
            return -1;
        }
        Num x = registers[r];
        if (x == NAN) {
            return 0;
        }
        if (!x.finite()) {
            return -3;
        }
        BigDecimal v = x.v.setScale(scale, RoundingMode.HALF_UP);
        if (v.abs().compareTo(BigDecimal.ONE.scaleByPowerOfTen(precision - scale)) >= 0) {
            return -3;
        }
        return put(r, finite(v, Math.max(0, scale)));
    }

    int compare(int a, int b) {
        if (!register(a) || !register(b)) {
            return -2;
        }
        Num x = registers[a];
        Num y = registers[b];
        if (x.finite() && y.finite()) {
            return x.v.compareTo(y.v);
        }
        return Integer.compare(rank(x), rank(y));
    }

    private static int rank(Num x) {
        return x == MINUS ? 0 : x.finite() ? 1 : x == PLUS ? 2 : 3;
    }

    private static String key(Num x) {
        return x.finite() ? "scale " + x.s : x.other;
    }

    int accept(int k, int r) {
        return change(k, r, 1);
    }

    int discard(int k, int r) {
        return change(k, r, -1);
    }

    private int change(int k, int r, int by) {
        if (!sum(k) || !register(r)) {
            return -1;
        }
        Total t = sums[k];
        Num x = registers[r];
        if (t.size >= 1000) {
            return -2;
        }
        if (by < 0 && t.of(key(x)) == 0) {
            return -6;
        }
        t.counts.merge(key(x), by, Integer::sum);
        if (x.finite()) {
            t.value = by > 0 ? t.value.add(x.v) : t.value.subtract(x.v);
        }
        t.size++;
        return 0;
    }

    int merge(int k, int j) {
        if (!sum(k) || !sum(j)) {
            return -1;
        }
        Total t = sums[k];
        Total o = sums[j];
        if (t.size + o.size > 1000) {
            return -2;
        }
        Total both = new Total();
        both.value = t.value.add(o.value);
        both.size = t.size + o.size;
        t.counts.forEach((key, n) -> both.counts.merge(key, n, Integer::sum));
        o.counts.forEach((key, n) -> both.counts.merge(key, n, Integer::sum));
        sums[k] = both;
        return 0;
    }

    boolean reset(int k) {
        if (!sum(k)) {
            return false;
        }
        sums[k] = new Total();
        return true;
    }

    int count(int k) {
        return sum(k) ? sums[k].members() : -1;
    }

    int total(int d, int k) {
        return !register(d) || !sum(k) ? -1 : put(d, result(sums[k]));
    }

    int average(int d, int k) {
        if (!register(d) || !sum(k)) {
            return -1;
        }
        Num result = result(sums[k]);
        if (result == null || !result.finite()) {
            return put(d, result);
        }
        return put(d, divide(result, new Num(BigDecimal.valueOf(sums[k].members()), 0)));
    }

    private Num result(Total t) {
        if (t.members() == 0) {
            return refuse(-6);
        }
        boolean plus = t.of("Infinity") != 0;
        boolean minus = t.of("-Infinity") != 0;
        if (t.of("NaN") != 0 || (plus && minus)) {
            return NAN;
        }
        if (plus || minus) {
            return plus ? PLUS : MINUS;
        }
        int scale = 24;
        while (t.of("scale " + scale) == 0) {
            scale--;
        }
        return finite(t.value.setScale(scale, RoundingMode.HALF_UP), scale);
    }
}
