import java.util.function.Consumer;
import java.util.function.Supplier;

/**
 * How a desk is brought to where a call is looked at. Registers, sums and buffer all hold something, so that a change
 * that is not due shows; sum 0 is left empty for the test's own use. The same scene makes the same desk each time.
 */
final class Scene implements Supplier<ScaledNumeralDesk> {
    private final String[] texts;
    private String typed = "61.5";
    private Consumer<ScaledNumeralDesk> last = desk -> { };

    private Scene(String[] texts) {
        this.texts = texts;
    }

    /** Registers from 0 on hold these numerals, the others hold some of their own. */
    static Scene of(String... texts) {
        return new Scene(texts);
    }

    Scene typed(String text) {
        typed = text;
        return this;
    }

    /** What is done last, with an empty buffer. */
    Scene then(Consumer<ScaledNumeralDesk> calls) {
        last = calls;
        return this;
    }

    @Override
    public ScaledNumeralDesk get() {
        ScaledNumeralDesk desk = new ScaledNumeralDesk();
        String[] summed = {"NaN", "1.5", "inf", "-2.50", "4", "-0.125"};
        for (int i = 0; i < summed.length; i++) {
            hold(desk, 0, summed[i]);
            desk.accept(1 + i / 2, 0);
        }
        String[] own = {"0", "-1.1", "2.20", "-inf", "4e4", "-0.0005", "nan", "70.0"};
        for (int r = 0; r < 8; r++) {
            hold(desk, r, r < texts.length ? texts[r] : own[r]);
        }
        last.accept(desk);
        Checks.type(desk, typed);
        return desk;
    }

    static void hold(ScaledNumeralDesk desk, int r, String text) {
        if (Checks.enter(desk, r, text) != 0) {
            throw new IllegalStateException("the scene can't be made: enter refuses " + text);
        }
    }

    /** Brings sum k to a size by accepting register r and by doubling. */
    static void fill(ScaledNumeralDesk desk, int k, int r, int size) {
        desk.reset(k);
        for (int bit = 512; bit > 0; bit /= 2) {
            desk.merge(k, k);
            if ((size & bit) != 0) {
                desk.accept(k, r);
            }
        }
    }
}
