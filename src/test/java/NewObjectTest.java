/** Promise 1. */
public final class NewObjectTest {
    public static void main(String[] args) {
        Checks checks = new Checks("NewObjectTest");
        ScaledNumeralDesk used = new ScaledNumeralDesk();
        Checks.enter(used, 0, "7.5");
        used.accept(0, 0);
        Checks.type(used, "12");

        ScaledNumeralDesk desk = new ScaledNumeralDesk();
        for (int r = 0; r < 8; r++) {
            checks.same("text of " + r, Checks.text(desk, r), "0");
            checks.same("length of " + r, desk.length(r), 1);
            checks.same("scale of " + r, desk.scale(r), 0);
        }
        for (int k = 0; k < 4; k++) {
            checks.same("count of " + k, desk.count(k), 0);
            checks.same("total of " + k, desk.total(0, k), -6);
            checks.same("average of " + k, desk.average(0, k), -6);
        }
        checks.same("enter of the empty buffer", desk.enter(0), -2);
        checks.same("accept", desk.accept(2, 3), 0);
        checks.same("total of one zero", desk.total(1, 2), 0);
        checks.same("its text", Checks.text(desk, 1), "0");
        checks.same("all of the first object's buffer is its own", used.enter(1), 0);
        checks.same("its text", Checks.text(used, 1), "12");
        everythingAtFirst(checks);
        checks.end();
    }

    /** "All registers hold the value 0 with scale 0, the buffer is empty, all sums are as at first." */
    private static void everythingAtFirst(Checks checks) {
        String zero = "0." + "0".repeat(24);
        String sum = "count 0, total refused with -6, average refused with -6, size 0, discards"
                + " 0/-6".repeat(28) + ", value 0 " + zero;
        State.of(ScaledNumeralDesk::new).forEach((part, state) -> {
            if (part.startsWith("register")) {
                checks.same(part, state, "0 scale 0");
            } else if (part.startsWith("sum")) {
                checks.same(part, state, sum);
            } else {
                checks.same(part, state, "room 80, read as refused with -2, continued as 70");
            }
        });
    }
}
