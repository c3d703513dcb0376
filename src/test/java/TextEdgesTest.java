/** The boundary cases of texts, buffer and numeral texts, and of promises 2 to 6. */
public final class TextEdgesTest {
    private static final Edges EDGES = new Edges("TextEdgesTest");
    private static final String NINES = Edges.NINES;
    private static final String TINY = Edges.TINY;
    private static final String ZERO24 = Edges.ZERO24;

    public static void main(String[] args) {
        textHasMinusBelowZero();
        textOfTheWholePart();
        textBehindThePoint();
        textsOfTheOthers();
        lengthAndCharacterAtTheirEdges();
        scaleOfWhatIsNotFinite();
        bufferOfEightyCharacters();
        typeOfCodes();
        typeIsRefusedByAFullBuffer();
        enterOfEighty();
        blanks();
        nanHasNoSign();
        infinityAndInf();
        signs();
        points();
        atLeastOneDigit();
        exponentOfOneToThreeDigits();
        lettersSmallOrCapital();
        everyShortText();
        everyTextNearAWord();
        scaleOfDigitsLessExponent();
        scaleAboveTwentyFour();
        tooLarge();
        tooLargeOnlyAfterRounding();
        zeroIsNeverTooLarge();
        bufferAfterEnter();
        EDGES.end();
    }

    private static void shows(String typed, String text) {
        Scene scene = Scene.of(typed);
        EDGES.answers("length of " + typed, scene, desk -> desk.length(0), text.length());
        EDGES.answers("scale of " + typed, scene, desk -> desk.scale(0), Edges.scaleOf(text));
        ScaledNumeralDesk desk = scene.get();
        for (int i = 0; i < text.length(); i++) {
            EDGES.same("character " + i + " of " + typed, desk.character(0, i), (int) text.charAt(i));
        }
        EDGES.same("character before " + typed, desk.character(0, -1), -1);
        EDGES.same("character behind " + typed, desk.character(0, text.length()), -1);
    }

    /** "a minus if the value is below 0 (0 has none, wherever it came from)" */
    private static void textHasMinusBelowZero() {
        shows("-" + TINY, "-" + TINY);
        shows("-1e-1", "-0.1");
        shows("-0e-1", "0.0");
        shows("-0", "0");
        shows(TINY, TINY);
        shows("+1", "1");
        shows("-1", "-1");
    }

    /** "the digits of the whole part without zeros in front, or 0 if that is 0" */
    private static void textOfTheWholePart() {
        shows("0001", "1");
        shows("000", "0");
        shows("00.9", "0.9");
        shows("0.9999", "0.9999");
        shows("1.0000", "1.0000");
        shows("9.99", "9.99");
        shows("10.00", "10.00");
        for (int digits = 1; digits <= 32; digits++) {
            shows("9".repeat(digits), "9".repeat(digits));
            shows("-1e" + (digits - 1), "-1" + "0".repeat(digits - 1));
        }
    }

    /** "if the scale is not 0, a point and as many digits as the scale says" */
    private static void textBehindThePoint() {
        shows("5", "5");
        shows("5.", "5");
        shows("5.0", "5.0");
        for (int digits = 1; digits <= 24; digits++) {
            shows("-7e-" + digits, "-0." + "0".repeat(digits - 1) + "7");
            shows("0e-" + digits, "0." + "0".repeat(digits));
            shows("1." + "0".repeat(digits), "1." + "0".repeat(digits));
        }
        shows("-" + Edges.MOST, "-" + Edges.MOST);
    }

    /** "The texts of the others are NaN, Infinity and -Infinity." */
    private static void textsOfTheOthers() {
        shows("nan", "NaN");
        shows("inf", "Infinity");
        shows("-inf", "-Infinity");
    }

    /** "-1 when there is no register r"; "or no such place" */
    private static void lengthAndCharacterAtTheirEdges() {
        for (int r : Edges.NO_REGISTER) {
            EDGES.answers("length of " + r, Scene.of(), desk -> desk.length(r), -1);
            EDGES.answers("character of " + r, Scene.of(), desk -> desk.character(r, 0), -1);
            EDGES.answers("no place of no register", Scene.of(), desk -> desk.character(r, -1), -1);
            EDGES.answers("scale of " + r, Scene.of(), desk -> desk.scale(r), -1);
        }
        EDGES.answers("first register", Scene.of("1.25"), desk -> desk.length(0), 4);
        EDGES.answers("last register", Scene.of(), desk -> desk.length(7), 4);
        EDGES.answers("scale of the first", Scene.of("1.25"), desk -> desk.scale(0), 2);
        EDGES.answers("scale of the last", Scene.of(), desk -> desk.scale(7), 1);
        EDGES.answers("first place", Scene.of("1.25"), desk -> desk.character(0, 0), '1');
        EDGES.answers("last place", Scene.of("1.25"), desk -> desk.character(0, 3), '5');
        for (int i : new int[] {-1, 4, 5, 60, Integer.MAX_VALUE, Integer.MIN_VALUE}) {
            EDGES.answers("place " + i, Scene.of("1.25"), desk -> desk.character(0, i), -1);
        }
        EDGES.answers("last place there is", Scene.of("-" + Edges.MOST), desk -> desk.character(0, 57), '9');
        EDGES.answers("first place there is not", Scene.of("-" + Edges.MOST), desk -> desk.character(0, 58), -1);
    }

    /** "-1 when there is no register r or it is not finite" */
    private static void scaleOfWhatIsNotFinite() {
        for (String other : new String[] {"NaN", "inf", "-inf"}) {
            EDGES.answers("scale of " + other, Scene.of(other), desk -> desk.scale(0), -1);
        }
        EDGES.answers("scale of 0", Scene.of("0"), desk -> desk.scale(0), 0);
        EDGES.answers("scale of TINY", Scene.of(TINY), desk -> desk.scale(0), 24);
    }

    private static int typed(ScaledNumeralDesk desk, int c) {
        return desk.type((char) c) ? 1 : 0;
    }

    /** "The BUFFER holds up to 80 characters." */
    private static void bufferOfEightyCharacters() {
        for (int n = 0; n <= 80; n++) {
            String before = "0".repeat(n);
            if (n < 80) {
                EDGES.answers("type behind " + n, Scene.of().typed(before), desk -> typed(desk, '5'), 1, "buffer");
                ScaledNumeralDesk desk = Edges.after(Scene.of().typed(before), d -> typed(d, '5'));
                EDGES.same("enter of " + n + " and one", desk.enter(0), 0);
                EDGES.same("text of " + n + " and one", Checks.text(desk, 0), "5");
            } else {
                EDGES.answers("type behind " + n, Scene.of().typed(before), desk -> typed(desk, '5'), 0);
            }
        }
    }

    /** "false when ... c is not 32 .. 126" */
    private static void typeOfCodes() {
        for (int c : new int[] {32, 33, 48, 57, 65, 97, 125, 126}) {
            EDGES.answers("type " + c, Scene.of().typed("1"), desk -> typed(desk, c), 1, "buffer");
        }
        for (int c : new int[] {0, 9, 10, 31, 127, 128, 255, 256, 304, 0x0660, 0xff11, 65535}) {
            EDGES.answers("type " + c, Scene.of().typed("1"), desk -> typed(desk, c), 0);
            EDGES.answers("type first " + c, Scene.of().typed(""), desk -> typed(desk, c), 0);
        }
        // 32 and 126 are kept although no numeral text has them.
        for (int c : new int[] {32, 126}) {
            ScaledNumeralDesk desk = Edges.after(Scene.of().typed("1"), d -> typed(d, c));
            EDGES.same("enter with " + c, desk.enter(0), -2);
        }
    }

    /** "false when it holds 80" */
    private static void typeIsRefusedByAFullBuffer() {
        Scene full = Scene.of().typed("0".repeat(78) + ".5");
        for (int c : new int[] {'0', 'e', ' ', '~', 31, 127}) {
            EDGES.answers("type into a full buffer " + c, full, desk -> typed(desk, c), 0);
        }
    }

    private static void enterOfEighty() {
        EDGES.enterGives("0".repeat(79) + "7", "7");
        EDGES.enterGives("-" + "0".repeat(47) + NINES, "-" + NINES);
        EDGES.enterGives("." + "0".repeat(23) + "1" + "0".repeat(55), TINY);
        EDGES.enterGives("0".repeat(75) + "1e-01", "0.1");
        EDGES.enterRefuses("1".repeat(80), -3);
        EDGES.enterRefuses(" ".repeat(80), -2);
        EDGES.enterRefuses("0".repeat(79) + " ", -2);
        EDGES.enterRefuses("0".repeat(79) + "e", -2);
        EDGES.enterRefuses("0".repeat(78) + "e+", -2);
    }

    /** "from beginning to end, no blanks" */
    private static void blanks() {
        for (String text : new String[] {"1.5", "NaN", "inf", "-Infinity", "1e5", "+1"}) {
            for (int at = 0; at <= text.length(); at++) {
                EDGES.enterRefuses(text.substring(0, at) + " " + text.substring(at), -2);
            }
        }
        EDGES.enterRefuses("", -2);
        EDGES.enterRefuses(" ", -2);
    }

    /** "NaN (without a sign)" */
    private static void nanHasNoSign() {
        EDGES.enterGives("NaN", "NaN");
        for (String text : new String[] {"+NaN", "-NaN", "Na", "NaNN", "NaN1", "1NaN", "NaNe1", "NaN.", "N", "aN"}) {
            EDGES.enterRefuses(text, -2);
        }
    }

    /** "perhaps one sign (+ or -) and then Infinity or inf" */
    private static void infinityAndInf() {
        EDGES.enterGives("Infinity", "Infinity");
        EDGES.enterGives("inf", "Infinity");
        EDGES.enterGives("+Infinity", "Infinity");
        EDGES.enterGives("+inf", "Infinity");
        EDGES.enterGives("-Infinity", "-Infinity");
        EDGES.enterGives("-inf", "-Infinity");
        String[] wrong = {
            "++inf", "--inf", "+-inf", "-+Infinity", "in", "infi", "infinit", "Infinityy", "inf1", "1inf", "inf.",
            "infe1", "inf+", "Infinity-", "*inf", "i", "-", "+i"};
        for (String text : wrong) {
            EDGES.enterRefuses(text, -2);
        }
    }

    /** "or perhaps one sign, then decimal digits" */
    private static void signs() {
        EDGES.enterGives("1", "1");
        EDGES.enterGives("+1", "1");
        EDGES.enterGives("-1", "-1");
        for (String text : new String[] {"++1", "--1", "+-1", "-+1", "1+", "1-", "1-1", ".-1", "*1", ",1"}) {
            EDGES.enterRefuses(text, -2);
        }
    }

    /** "with at most one point before, among or behind them" */
    private static void points() {
        EDGES.enterGives(".12", "0.12");
        EDGES.enterGives("1.2", "1.2");
        EDGES.enterGives("12.", "12");
        EDGES.enterGives("-.12", "-0.12");
        EDGES.enterGives("12.e1", "120");
        EDGES.enterGives(".12e1", "1.2");
        String[] wrong = {"..12", "1..2", "12..", ".1.2", "1.2.", ".12.", "1,2", ".+1", "1.e1.", "1e.1"};
        for (String text : wrong) {
            EDGES.enterRefuses(text, -2);
        }
    }

    /** "at least one digit" */
    private static void atLeastOneDigit() {
        EDGES.enterGives("0", "0");
        EDGES.enterGives("0.", "0");
        EDGES.enterGives(".0", "0.0");
        for (String text : new String[] {"", "+", "-", ".", "+.", "-.", "e1", ".e1", "+e1", "-.e1", "e"}) {
            EDGES.enterRefuses(text, -2);
        }
        for (char c : new char[] {'/', ':', '@', '`', 'a', 'A', 'o', 'O'}) {
            EDGES.enterRefuses("1" + c, -2);
            EDGES.enterRefuses(c + "1", -2);
            EDGES.enterRefuses("1e" + c, -2);
            EDGES.enterRefuses("1e1" + c, -2);
        }
    }

    /** "perhaps e, perhaps one sign and one to three digits (the exponent; 0 if there is none)" */
    private static void exponentOfOneToThreeDigits() {
        EDGES.enterGives("25", "25");
        EDGES.enterGives("25e0", "25");
        EDGES.enterGives("25e1", "250");
        EDGES.enterGives("25e01", "250");
        EDGES.enterGives("25e001", "250");
        EDGES.enterGives("25e+001", "250");
        EDGES.enterGives("25e-001", "2.5");
        EDGES.enterGives("25e-01", "2.5");
        EDGES.enterGives("25e-1", "2.5");
        EDGES.enterGives("25e-0", "25");
        EDGES.enterGives("25e+0", "25");
        EDGES.enterGives("25e+30", "25" + "0".repeat(30));
        EDGES.enterGives("25e-999", ZERO24);
        EDGES.enterRefuses("25e+999", -3);
        String[] wrong = {
            "25e", "25e+", "25e-", "25e0001", "25e+0001", "25e-0001", "25e1000", "0e0000", "25e++1", "25e--1", "25e+-1",
            "25ee1", "25e1e1", "25e1+", "25e1.", "25e.1", "25f1", "25d1", "25 e1", "25e 1", "25e1 ", "25^1"};
        for (String text : wrong) {
            EDGES.enterRefuses(text, -2);
        }
    }

    /** "Letters may be small or capital." */
    private static void lettersSmallOrCapital() {
        for (String word : new String[] {"nan", "inf", "infinity"}) {
            for (int bits = 0; bits < 1 << word.length(); bits++) {
                StringBuilder text = new StringBuilder();
                for (int i = 0; i < word.length(); i++) {
                    char c = word.charAt(i);
                    text.append((bits >> i & 1) == 0 ? c : Character.toUpperCase(c));
                }
                EDGES.enterGives(text.toString(), word.equals("nan") ? "NaN" : "Infinity");
            }
        }
        EDGES.enterGives("1e2", "100");
        EDGES.enterGives("1E2", "100");
    }

    private static void asTheModel(String text) {
        ScaledNumeralDesk desk = new ScaledNumeralDesk();
        Model model = new Model();
        Checks.enter(desk, 3, "8.5");
        Checks.type(desk, text);
        for (int i = 0; i < text.length(); i++) {
            model.type(text.charAt(i));
        }
        int due = model.enter(3);
        EDGES.same("enter of '" + text + "'", desk.enter(3), due);
        EDGES.same("text of '" + text + "'", Checks.text(desk, 3), due == 0 ? model.text(3) : "8.5");
        EDGES.same("scale of '" + text + "'", desk.scale(3), due == 0 ? model.scale(3) : 1);
    }

    /** What is a NUMERAL TEXT and what not, on each text of up to six of these characters. */
    private static void everyShortText() {
        String characters = "05.e-+";
        int radix = characters.length();
        int texts = 1;
        for (int length = 0; length <= 6; length++) {
            for (int number = 0; number < texts; number++) {
                StringBuilder text = new StringBuilder();
                for (int rest = number, i = 0; i < length; i++) {
                    text.append(characters.charAt(rest % radix));
                    rest /= radix;
                }
                asTheModel(text.toString());
            }
            texts *= radix;
        }
    }

    /** Each text that comes from a word by one character more, less or other. */
    private static void everyTextNearAWord() {
        for (String word : new String[] {"NaN", "inf", "-inf", "+inf", "Infinity", "-Infinity", "1.5e10", "-.5e-3"}) {
            for (int at = 0; at <= word.length(); at++) {
                for (char c = 32; c <= 126; c++) {
                    asTheModel(word.substring(0, at) + c + word.substring(at));
                    if (at < word.length()) {
                        asTheModel(word.substring(0, at) + c + word.substring(at + 1));
                    }
                }
                if (at < word.length()) {
                    asTheModel(word.substring(0, at) + word.substring(at + 1));
                }
            }
        }
    }

    /** "the number of digits behind the point less the exponent, but 0 if that is negative" */
    private static void scaleOfDigitsLessExponent() {
        EDGES.enterGives("1.250e2", "125.0");
        EDGES.enterGives("1.250e3", "1250");
        EDGES.enterGives("1.250e4", "12500");
        EDGES.enterGives("1.250e-2", "0.01250");
        EDGES.enterGives("0.00e1", "0.0");
        EDGES.enterGives("0.00e2", "0");
        EDGES.enterGives("0.00e3", "0");
        EDGES.enterGives("0.00e-1", "0.000");
        EDGES.enterGives("0." + "0".repeat(60) + "5e61", "5");
        EDGES.enterGives("0." + "0".repeat(60) + "5e60", "0.5");
    }

    /** "If that scale is greater than 24, the value is rounded at 24 and the scale is 24." */
    private static void scaleAboveTwentyFour() {
        String zeros = "0." + "0".repeat(23);
        EDGES.enterGives("1e-23", "0." + "0".repeat(22) + "1");
        EDGES.enterGives("1e-24", zeros + "1");
        EDGES.enterGives("1e-25", zeros + "0");
        EDGES.enterGives("4e-25", zeros + "0");
        EDGES.enterGives("5e-25", zeros + "1");
        EDGES.enterGives("-5e-25", "-" + zeros + "1");
        EDGES.enterGives("50e-26", zeros + "1");
        EDGES.enterGives("49e-26", zeros + "0");
        EDGES.enterGives("5e-26", zeros + "0");
        EDGES.enterGives("9".repeat(25) + "e-50", zeros + "0");
        EDGES.enterGives("9".repeat(26) + "e-50", zeros + "1");
        EDGES.enterGives("0." + "9".repeat(24) + "4", "0." + "9".repeat(24));
        EDGES.enterGives("0." + "9".repeat(24) + "5", "1." + "0".repeat(24));
        EDGES.enterGives("0e-24", ZERO24);
        EDGES.enterGives("0e-25", ZERO24);
        EDGES.enterGives("1." + "0".repeat(77), "1." + "0".repeat(24));
        EDGES.enterGives("9".repeat(76) + "e-76", "1." + "0".repeat(24));
        EDGES.enterGives("9".repeat(75) + "e-999", ZERO24);
    }

    /** "A magnitude of 10^32 or more ... is TOO LARGE" */
    private static void tooLarge() {
        for (String sign : new String[] {"", "-", "+"}) {
            String shown = sign.equals("-") ? "-" : "";
            EDGES.enterGives(sign + NINES, shown + NINES);
            EDGES.enterRefuses(sign + "1" + "0".repeat(32), -3);
            EDGES.enterGives(sign + "1e31", shown + "1" + "0".repeat(31));
            EDGES.enterRefuses(sign + "1e32", -3);
            EDGES.enterRefuses(sign + "1e999", -3);
            EDGES.enterGives(sign + "0.09e33", shown + "9" + "0".repeat(31));
            EDGES.enterRefuses(sign + "0.1e33", -3);
            EDGES.enterGives(sign + "9." + "9".repeat(31) + "e31", shown + NINES);
            EDGES.enterRefuses(sign + "9." + "9".repeat(31) + "e32", -3);
            EDGES.enterGives(sign + "1" + "0".repeat(70) + "e-39", shown + "1" + "0".repeat(31) + "." + "0".repeat(24));
            EDGES.enterRefuses(sign + "1" + "0".repeat(70) + "e-38", -3);
            EDGES.enterGives(sign + "." + "0".repeat(70) + "1e102", shown + "1" + "0".repeat(31));
            EDGES.enterRefuses(sign + "." + "0".repeat(70) + "1e103", -3);
        }
        // A text that is none is refused as such, however large its digits are.
        EDGES.enterRefuses("1e999x", -2);
        EDGES.enterRefuses("1e9999", -2);
        EDGES.enterRefuses("9".repeat(78) + "..", -2);
    }

    /** "(after that)": only the rounded value counts. */
    private static void tooLargeOnlyAfterRounding() {
        EDGES.enterGives(Edges.MOST, Edges.MOST);
        EDGES.enterGives(Edges.MOST + "4", Edges.MOST);
        EDGES.enterGives(Edges.MOST + "4" + "9".repeat(20), Edges.MOST);
        EDGES.enterRefuses(Edges.MOST + "5", -3);
        EDGES.enterRefuses("-" + Edges.MOST + "5", -3);
        EDGES.enterRefuses(Edges.MOST + "9".repeat(23), -3);
        EDGES.enterRefuses("9".repeat(57) + "e-25", -3);
        EDGES.enterRefuses("9".repeat(75) + "e-43", -3);
        EDGES.enterGives("9".repeat(75) + "e-44", "1" + "0".repeat(31) + "." + "0".repeat(24));
    }

    /** "0 never is, whatever the exponent" */
    private static void zeroIsNeverTooLarge() {
        for (String exponent : new String[] {"31", "32", "33", "100", "999"}) {
            EDGES.enterGives("0e" + exponent, "0");
            EDGES.enterGives("-0.000e" + exponent, "0");
            EDGES.enterGives("0".repeat(70) + "e" + exponent, "0");
            EDGES.enterGives("." + "0".repeat(20) + "e" + exponent, "0");
        }
        EDGES.enterRefuses("1e32", -3);
    }

    /** "The buffer is empty afterwards, also at -2 and -3, but not at -1." */
    private static void bufferAfterEnter() {
        for (String typed : new String[] {"", "7.25", "rubbish", "1e32", "9".repeat(80)}) {
            Scene scene = Scene.of().typed(typed);
            for (int r : Edges.NO_REGISTER) {
                EDGES.answers("enter(" + r + ") of '" + typed + "'", scene, desk -> desk.enter(r), -1);
            }
        }
        for (int r = 0; r < 8; r++) {
            int d = r;
            EDGES.gives("enter(" + r + ")", Scene.of().typed("7.25"), desk -> desk.enter(d), r, "7.25", "buffer");
            EDGES.answers("enter(" + r + ")", Scene.of().typed("x"), desk -> desk.enter(d), -2, "buffer");
            EDGES.answers("enter(" + r + ")", Scene.of().typed("1e32"), desk -> desk.enter(d), -3, "buffer");
        }
        // -1 left the text for the next enter, 0, -2 and -3 leave nothing.
        ScaledNumeralDesk desk = new ScaledNumeralDesk();
        Checks.type(desk, "1");
        EDGES.same("no register", desk.enter(8), -1);
        Checks.type(desk, "2");
        EDGES.same("both characters", desk.enter(0), 0);
        EDGES.same("text", Checks.text(desk, 0), "12");
        for (String typed : new String[] {"4", "x", "1e32"}) {
            Checks.enter(desk, 0, typed);
            EDGES.same("empty after " + typed, desk.enter(1), -2);
            EDGES.same("only what is typed anew", Checks.enter(desk, 1, "5"), 0);
            EDGES.same("text", Checks.text(desk, 1), "5");
        }
    }
}
