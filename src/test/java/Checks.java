/** Counts checks and tells the wrong ones; a test ends with exit code 1 if there was one. */
final class Checks {
    private final String name;
    private int made;
    private int wrong;

    Checks(String name) {
        this.name = name;
    }

    void same(String what, Object got, Object due) {
        made++;
        if (!due.equals(got)) {
            wrong++;
            System.out.println(name + ": " + what + " is " + got + ", due is " + due);
        }
    }

    void end() {
        System.out.println(name + ": " + made + " checks, " + wrong + " wrong");
        if (wrong != 0 || made == 0) {
            System.exit(1);
        }
    }

    static void type(ScaledNumeralDesk desk, String text) {
        for (int i = 0; i < text.length(); i++) {
            desk.type(text.charAt(i));
        }
    }

    static int enter(ScaledNumeralDesk desk, int r, String text) {
        type(desk, text);
        return desk.enter(r);
    }

    static String text(ScaledNumeralDesk desk, int r) {
        StringBuilder text = new StringBuilder();
        int length = desk.length(r);
        for (int i = 0; i < length; i++) {
            text.append((char) desk.character(r, i));
        }
        return text.toString();
    }
}
