/** Promises 11 to 17. */
public final class SumsTest {
    private static final Checks CHECKS = new Checks("SumsTest");
    private static final String NINES = "9".repeat(32);
    private static final int[] NO_REGISTER = {-1, 8, Integer.MAX_VALUE, Integer.MIN_VALUE};
    private static final int[] NO_SUM = {-1, 4, Integer.MAX_VALUE, Integer.MIN_VALUE};

    public static void main(String[] args) {
        acceptsAndDiscards();
        discardsWhatWasNotAccepted();
        countsByKind();
        countsByScale();
        sizeLimit();
        merges();
        resets();
        totals();
        averages();
        wrongNumbers();
        CHECKS.end();
    }

    private static ScaledNumeralDesk entered(String... texts) {
        ScaledNumeralDesk desk = new ScaledNumeralDesk();
        for (int r = 0; r < texts.length; r++) {
            CHECKS.same("enter " + texts[r], Checks.enter(desk, r, texts[r]), 0);
        }
        return desk;
    }

    private static void totalIs(ScaledNumeralDesk desk, int k, String text) {
        CHECKS.same("total of " + text, desk.total(7, k), 0);
        CHECKS.same("text of the total", Checks.text(desk, 7), text);
    }

    private static void averageIs(ScaledNumeralDesk desk, int k, String text) {
        CHECKS.same("average of " + text, desk.average(7, k), 0);
        CHECKS.same("text of the average", Checks.text(desk, 7), text);
    }

    private static void acceptsAndDiscards() {
        ScaledNumeralDesk desk = entered("1.5", "-4.25", "10", "0.000");
        for (int r = 0; r < 4; r++) {
            CHECKS.same("accept " + r, desk.accept(3, r), 0);
            CHECKS.same("count", desk.count(3), r + 1);
        }
        totalIs(desk, 3, "7.250");
        CHECKS.same("discard 3", desk.discard(3, 3), 0);
        totalIs(desk, 3, "7.25");
        CHECKS.same("discard 3 again", desk.discard(3, 3), -6);
        totalIs(desk, 3, "7.25");
        CHECKS.same("discard 1", desk.discard(3, 1), 0);
        totalIs(desk, 3, "11.5");
        CHECKS.same("discard 0", desk.discard(3, 0), 0);
        totalIs(desk, 3, "10");
        CHECKS.same("discard 2", desk.discard(3, 2), 0);
        CHECKS.same("count of none", desk.count(3), 0);
        CHECKS.same("total of none", desk.total(7, 3), -6);
        CHECKS.same("average of none", desk.average(7, 3), -6);
        CHECKS.same("register after -6", Checks.text(desk, 7), "10");
        CHECKS.same("other sums", desk.count(0), 0);
    }

    private static void discardsWhatWasNotAccepted() {
        ScaledNumeralDesk desk = entered("1.25", "0.1", "7.00", "3", "-5");
        desk.accept(0, 0);
        desk.accept(0, 1);
        CHECKS.same("discard of scale 0", desk.discard(0, 3), -6);
        CHECKS.same("discard of scale 2", desk.discard(0, 2), 0);
        CHECKS.same("count", desk.count(0), 1);
        // 1.25 + 0.1 - 7.00 with the one scale 1 left: rounded away from 0.
        totalIs(desk, 0, "-5.7");
        desk.accept(0, 3);
        desk.discard(0, 1);
        totalIs(desk, 0, "-3");
        CHECKS.same("discard of another", desk.discard(0, 4), 0);
        CHECKS.same("count", desk.count(0), 0);
        CHECKS.same("total", desk.total(7, 0), -6);
        // The value that is left over, 2.25, goes on.
        desk.accept(0, 3);
        totalIs(desk, 0, "5");
        desk.accept(0, 0);
        totalIs(desk, 0, "6.50");
    }

    private static void countsByKind() {
        ScaledNumeralDesk desk = entered("nan", "inf", "-inf", "2.5");
        for (int r = 0; r < 4; r++) {
            CHECKS.same("nothing to discard", desk.discard(1, r), -6);
        }
        desk.accept(1, 3);
        desk.accept(1, 1);
        CHECKS.same("no MINUS", desk.discard(1, 2), -6);
        CHECKS.same("no NaN", desk.discard(1, 0), -6);
        totalIs(desk, 1, "Infinity");
        averageIs(desk, 1, "Infinity");
        desk.accept(1, 2);
        totalIs(desk, 1, "NaN");
        CHECKS.same("count", desk.count(1), 3);
        CHECKS.same("discard PLUS", desk.discard(1, 1), 0);
        totalIs(desk, 1, "-Infinity");
        averageIs(desk, 1, "-Infinity");
        desk.accept(1, 0);
        totalIs(desk, 1, "NaN");
        averageIs(desk, 1, "NaN");
        CHECKS.same("count", desk.count(1), 3);
        CHECKS.same("discard MINUS", desk.discard(1, 2), 0);
        totalIs(desk, 1, "NaN");
        CHECKS.same("discard NaN", desk.discard(1, 0), 0);
        totalIs(desk, 1, "2.5");
    }

    private static void countsByScale() {
        ScaledNumeralDesk desk = new ScaledNumeralDesk();
        for (int scale = 0; scale <= 24; scale++) {
            Checks.enter(desk, 5, "1e-" + scale);
            CHECKS.same("each scale", desk.discard(2, 5), -6);
            CHECKS.same("each scale", desk.accept(2, 5), 0);
        }
        totalIs(desk, 2, "1." + "1".repeat(24));
        CHECKS.same("count", desk.count(2), 25);
        for (int scale = 24; scale > 0; scale--) {
            Checks.enter(desk, 5, "1e-" + scale);
            CHECKS.same("each scale", desk.discard(2, 5), 0);
            CHECKS.same("total", desk.total(7, 2), 0);
            CHECKS.same("scale of the total", desk.scale(7), scale - 1);
        }
        totalIs(desk, 2, "1");
    }

    /** Doubles a sum of one up to 512, and with other ones up to just 1000. */
    private static ScaledNumeralDesk full() {
        ScaledNumeralDesk desk = entered("1", "0.5", "inf");
        desk.accept(0, 0);
        desk.accept(1, 1);
        for (int i = 0; i < 9; i++) {
            CHECKS.same("double", desk.merge(0, 0), 0);
            if (i == 2 || i >= 4) {
                continue;
            }
            CHECKS.same("double", desk.merge(1, 1), 0);
        }
        CHECKS.same("512", desk.count(0), 512);
        CHECKS.same("8", desk.count(1), 8);
        desk.merge(2, 1);
        for (int size : new int[] {8, 16, 32, 64, 128, 256}) {
            CHECKS.same("size", desk.count(1), size);
            if (size >= 32) {
                CHECKS.same("merge of " + size, desk.merge(0, 1), 0);
            }
            if (size < 256) {
                desk.merge(1, 1);
            }
        }
        CHECKS.same("992", desk.count(0), 992);
        CHECKS.same("256 more", desk.merge(0, 1), -2);
        CHECKS.same("8 more", desk.merge(0, 2), 0);
        CHECKS.same("1000", desk.count(0), 1000);
        return desk;
    }

    private static void sizeLimit() {
        ScaledNumeralDesk desk = full();
        totalIs(desk, 0, "756.0");
        averageIs(desk, 0, "0.75600000000000000000");
        CHECKS.same("accept", desk.accept(0, 0), -2);
        CHECKS.same("accept inf", desk.accept(0, 2), -2);
        CHECKS.same("discard", desk.discard(0, 0), -2);
        CHECKS.same("-2 before -6", desk.discard(0, 2), -2);
        CHECKS.same("merge", desk.merge(0, 2), -2);
        CHECKS.same("merge itself", desk.merge(0, 0), -2);
        CHECKS.same("merge an empty one", desk.merge(0, 3), 0);
        CHECKS.same("into an empty one", desk.merge(3, 0), 0);
        totalIs(desk, 0, "756.0");
        CHECKS.same("-1 before -2", desk.accept(0, 8), -1);
        CHECKS.same("reset", desk.reset(0), true);
        CHECKS.same("accept after it", desk.accept(0, 0), 0);
        totalIs(desk, 0, "1");
        desk.reset(0);
        CHECKS.same("after a reset there is room for 1000", desk.merge(0, 3), 0);
        CHECKS.same("and no more", desk.accept(0, 0), -2);
        discardsAddToTheSize();
    }

    private static void discardsAddToTheSize() {
        ScaledNumeralDesk desk = entered("3");
        for (int i = 0; i < 2; i++) {
            CHECKS.same("accept", desk.accept(0, 0), 0);
        }
        CHECKS.same("discard", desk.discard(0, 0), 0);
        // The size is 3 now, the count 1: after eight doublings 768 and 256.
        for (int i = 0; i < 8; i++) {
            CHECKS.same("double", desk.merge(0, 0), 0);
        }
        CHECKS.same("count", desk.count(0), 256);
        CHECKS.same("no more", desk.merge(0, 0), -2);
        for (int i = 0; i < 116; i++) {
            CHECKS.same("accept", desk.accept(0, 0), 0);
            CHECKS.same("discard", desk.discard(0, 0), 0);
        }
        CHECKS.same("full", desk.accept(0, 0), -2);
        CHECKS.same("full", desk.discard(0, 0), -2);
        totalIs(desk, 0, "768");
    }

    private static void merges() {
        ScaledNumeralDesk desk = entered("1.5", "-2.25", "nan", "inf");
        desk.accept(0, 0);
        desk.accept(1, 1);
        CHECKS.same("merge", desk.merge(0, 1), 0);
        totalIs(desk, 0, "-0.75");
        totalIs(desk, 1, "-2.25");
        CHECKS.same("counts", desk.count(0) * 10 + desk.count(1), 21);
        CHECKS.same("taken back", desk.discard(0, 0), 0);
        totalIs(desk, 0, "-2.25");
        CHECKS.same("itself", desk.merge(1, 1), 0);
        totalIs(desk, 1, "-4.50");
        desk.accept(2, 2);
        desk.accept(2, 3);
        CHECKS.same("merge", desk.merge(1, 2), 0);
        totalIs(desk, 1, "NaN");
        CHECKS.same("discard NaN", desk.discard(1, 2), 0);
        totalIs(desk, 1, "Infinity");
        CHECKS.same("count", desk.count(1), 3);
        CHECKS.same("two empty ones", desk.merge(3, 3), 0);
        CHECKS.same("count", desk.count(3), 0);
        Checks.enter(desk, 0, "5");
        desk.accept(3, 0);
        Checks.enter(desk, 0, "3");
        desk.discard(3, 0);
        CHECKS.same("the value is merged without any count", desk.merge(0, 3), 0);
        totalIs(desk, 0, "-0.25");
    }

    private static void resets() {
        ScaledNumeralDesk desk = entered("1.5", "-2.25", "nan", "inf", "-inf");
        for (int r = 0; r < 5; r++) {
            desk.accept(2, r);
            desk.accept(1, r);
        }
        CHECKS.same("reset", desk.reset(2), true);
        CHECKS.same("count", desk.count(2), 0);
        CHECKS.same("other count", desk.count(1), 5);
        for (int r = 0; r < 5; r++) {
            CHECKS.same("nothing left", desk.discard(2, r), -6);
        }
        desk.accept(2, 0);
        totalIs(desk, 2, "1.5");
        CHECKS.same("of an empty one", desk.reset(3), true);
        for (int k : NO_SUM) {
            CHECKS.same("reset(" + k + ")", desk.reset(k), false);
        }
    }

    private static void totals() {
        ScaledNumeralDesk desk = entered(NINES, "1", "-" + NINES);
        desk.accept(0, 0);
        totalIs(desk, 0, NINES);
        desk.accept(0, 1);
        CHECKS.same("10^32", desk.total(7, 0), -3);
        CHECKS.same("average of 10^32", desk.average(7, 0), -3);
        CHECKS.same("register after -3", Checks.text(desk, 7), NINES);
        desk.accept(0, 2);
        totalIs(desk, 0, "1");
        desk.accept(0, 2);
        desk.accept(0, 2);
        CHECKS.same("below -10^32", desk.total(7, 0), -3);
        greatSumsAreExact();
        roundedToTooLarge();
    }

    private static void greatSumsAreExact() {
        ScaledNumeralDesk desk = entered(NINES + "." + "9".repeat(24));
        desk.accept(0, 0);
        for (int i = 0; i < 8; i++) {
            desk.merge(0, 0);
        }
        desk.merge(1, 0);
        desk.merge(1, 0);
        CHECKS.same("512 great ones", desk.total(7, 1), -3);
        for (int i = 0; i < 254; i++) {
            CHECKS.same("discard", desk.discard(0, 0), 0);
        }
        CHECKS.same("two great ones", desk.total(7, 0), -3);
        CHECKS.same("discard", desk.discard(0, 0), 0);
        totalIs(desk, 0, NINES + "." + "9".repeat(24));
    }

    private static void roundedToTooLarge() {
        ScaledNumeralDesk desk = entered(NINES, "0.50", "0.00", "0.04");
        desk.accept(0, 0);
        desk.accept(0, 1);
        desk.discard(0, 2);
        CHECKS.same("rounded to 10^32", desk.total(7, 0), -3);
        desk.accept(1, 3);
        desk.accept(1, 0);
        CHECKS.same("discard 0.00", desk.discard(1, 2), 0);
        CHECKS.same("count", desk.count(1), 1);
        totalIs(desk, 1, NINES);
    }

    private static void averages() {
        ScaledNumeralDesk desk = entered("1", "2", "2.00", "-5.0", NINES, "0");
        desk.accept(0, 0);
        averageIs(desk, 0, "1.00000000000000000000");
        desk.accept(0, 1);
        averageIs(desk, 0, "1.5000000000000000");
        desk.accept(0, 2);
        averageIs(desk, 0, "1.6666666666666667");
        CHECKS.same("scale", desk.scale(7), 16);
        CHECKS.same("the sum stays", desk.count(0), 3);
        totalIs(desk, 0, "5.00");
        desk.accept(0, 3);
        averageIs(desk, 0, "0." + "0".repeat(20));
        desk.accept(0, 3);
        averageIs(desk, 0, "-1.00000000000000000000");
        desk.accept(1, 4);
        averageIs(desk, 1, NINES);
        desk.accept(1, 5);
        // 10^32 - 1 by 2 is 49..9.5, and by the rule of scales (weight 7, lead 9999 over 2) it has scale 0.
        averageIs(desk, 1, "5" + "0".repeat(31));
    }

    private static void wrongNumbers() {
        ScaledNumeralDesk desk = entered("1.5");
        desk.accept(0, 0);
        for (int k : NO_SUM) {
            CHECKS.same("accept", desk.accept(k, 0), -1);
            CHECKS.same("discard", desk.discard(k, 0), -1);
            CHECKS.same("merge", desk.merge(k, 0), -1);
            CHECKS.same("merge", desk.merge(0, k), -1);
            CHECKS.same("merge", desk.merge(k, k), -1);
            CHECKS.same("count", desk.count(k), -1);
            CHECKS.same("total", desk.total(0, k), -1);
            CHECKS.same("average", desk.average(0, k), -1);
        }
        for (int r : NO_REGISTER) {
            CHECKS.same("accept", desk.accept(0, r), -1);
            CHECKS.same("discard", desk.discard(0, r), -1);
            CHECKS.same("total", desk.total(r, 0), -1);
            CHECKS.same("average", desk.average(r, 0), -1);
            CHECKS.same("-1 before -6", desk.total(r, 1), -1);
            CHECKS.same("-1 before -6", desk.average(r, 1), -1);
        }
        CHECKS.same("count", desk.count(0), 1);
        totalIs(desk, 0, "1.5");
    }
}
