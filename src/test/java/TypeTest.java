/** Promise 2. */
public final class TypeTest {
    public static void main(String[] args) {
        Checks checks = new Checks("TypeTest");
        for (int c = 0; c < 65536; c++) {
            if (c < 300 || c % 251 == 0 || c == 65535) {
                checks.same("type of " + c, new ScaledNumeralDesk().type((char) c), c >= 32 && c <= 126);
            }
        }
        refusedCharactersAreNotKept(checks);
        eightyCharacters(checks);
        checks.end();
    }

    private static void refusedCharactersAreNotKept(Checks checks) {
        ScaledNumeralDesk desk = new ScaledNumeralDesk();
        checks.same("type 4", desk.type('4'), true);
        checks.same("type newline", desk.type('\n'), false);
        checks.same("type delete", desk.type((char) 127), false);
        checks.same("type 2", desk.type('2'), true);
        checks.same("enter", desk.enter(0), 0);
        checks.same("text", Checks.text(desk, 0), "42");
    }

    private static void eightyCharacters(Checks checks) {
        ScaledNumeralDesk desk = new ScaledNumeralDesk();
        for (int i = 0; i < 78; i++) {
            checks.same("type at " + i, desk.type('0'), true);
        }
        checks.same("type at 78", desk.type('1'), true);
        checks.same("type at 79", desk.type('2'), true);
        checks.same("type at 80", desk.type('3'), false);
        checks.same("type at 80, wrong too", desk.type((char) 7), false);
        checks.same("enter of a wrong register keeps the buffer", desk.enter(8), -1);
        checks.same("still full", desk.type('3'), false);
        checks.same("enter", desk.enter(0), 0);
        checks.same("text", Checks.text(desk, 0), "12");
        checks.same("room again", desk.type('3'), true);
    }
}
