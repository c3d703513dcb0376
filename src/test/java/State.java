import java.util.LinkedHashMap;
import java.util.Map;
import java.util.function.Supplier;

/**
 * All that calls can tell about a desk. Some questions change the desk that they are put to: each is put to a desk of
 * its own, made in the same way, and none of them is called more than 512 times.
 */
final class State {
    private static final String[] KINDS = {"nan", "inf", "-inf"};

    private State() {
    }

    static Map<String, String> of(Supplier<ScaledNumeralDesk> maker) {
        Map<String, String> state = new LinkedHashMap<>();
        for (int r = 0; r < 8; r++) {
            ScaledNumeralDesk desk = maker.get();
            state.put("register " + r, Checks.text(desk, r) + " scale " + desk.scale(r));
        }
        state.put("buffer", buffer(maker));
        for (int k = 0; k < 4; k++) {
            state.put("sum " + k, sum(maker, k));
        }
        return state;
    }

    private static String buffer(Supplier<ScaledNumeralDesk> maker) {
        ScaledNumeralDesk filled = maker.get();
        int room = 0;
        while (room < 100 && filled.type('0')) {
            room++;
        }
        ScaledNumeralDesk entered = maker.get();
        String read = told(entered, entered.enter(0));
        ScaledNumeralDesk continued = maker.get();
        Checks.type(continued, "7e1");
        String longer = told(continued, continued.enter(0));
        return "room " + room + ", read as " + read + ", continued as " + longer;
    }

    /** An answer, and when it is 0 what register 0 got. */
    private static String told(ScaledNumeralDesk desk, int answer) {
        return answer == 0 ? Checks.text(desk, 0) : "refused with " + answer;
    }

    private static String sum(Supplier<ScaledNumeralDesk> maker, int k) {
        ScaledNumeralDesk desk = maker.get();
        String count = "count " + desk.count(k);
        String total = ", total " + told(desk, desk.total(0, k));
        desk = maker.get();
        String average = ", average " + told(desk, desk.average(0, k));
        return count + total + average + ", size " + size(maker, k) + counts(maker.get(), k) + value(maker.get(), k);
    }

    /** What a sum of n more takes: it is told by the greatest sum that merges with it. */
    private static int size(Supplier<ScaledNumeralDesk> maker, int k) {
        int room = 0;
        for (int bit = 512; bit > 0; bit /= 2) {
            if (room + bit <= 1000 && takes(maker.get(), k, room + bit)) {
                room += bit;
            }
        }
        return 1000 - room;
    }

    private static boolean takes(ScaledNumeralDesk desk, int k, int room) {
        int other = (k + 1) % 4;
        Scene.fill(desk, other, 0, room);
        return desk.merge(other, k) == 0;
    }

    private static String counts(ScaledNumeralDesk desk, int k) {
        desk.enter(0);
        StringBuilder counts = new StringBuilder(", discards");
        for (int scale = 0; scale <= 24; scale++) {
            Scene.hold(desk, 0, "0e-" + scale);
            counts.append(' ').append(discards(desk, k, 2));
        }
        for (String kind : KINDS) {
            Scene.hold(desk, 0, kind);
            counts.append(' ').append(discards(desk, k, 3));
        }
        return counts.toString();
    }

    private static String discards(ScaledNumeralDesk desk, int k, int most) {
        int done = 0;
        int answer = 0;
        while (answer == 0 && done < most) {
            answer = desk.discard(k, 0);
            done += answer == 0 ? 1 : 0;
        }
        return done + "/" + answer;
    }

    /** The value to its last place, also when the sum is not finite or counts nothing. */
    private static String value(ScaledNumeralDesk desk, int k) {
        desk.enter(0);
        for (String kind : KINDS) {
            Scene.hold(desk, 0, kind);
            discards(desk, k, 10);
        }
        Scene.hold(desk, 0, "0e-24");
        return ", value " + desk.accept(k, 0) + " " + told(desk, desk.total(0, k));
    }
}
