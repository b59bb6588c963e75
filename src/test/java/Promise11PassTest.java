/** Promise 11: pass. */
public final class Promise11PassTest {
    public static void main(String[] args) {
        SkinLeague x = Checks.league(2);
        Checks.due("pass(1)", x.pass(1), 1);
        Checks.due("pass(400)", x.pass(400), 401);
        Checks.outOfRange("pass(0)", () -> x.pass(0));
        Checks.outOfRange("pass(-1)", () -> x.pass(-1));
        Checks.outOfRange("pass(401)", () -> x.pass(401));
        Checks.outOfRange("pass(min)", () -> x.pass(Integer.MIN_VALUE));
        Checks.outOfRange("pass(max)", () -> x.pass(Integer.MAX_VALUE));
        Checks.due("pass(2)", x.pass(2), 403);
        Checks.due("end() leaves the day", x.end(), 0);
        Checks.due("pass(3)", x.pass(3), 406);
        regionsAreEmptyAgain();
        manyDays();
        Checks.end("promise 11");
    }

    private static void regionsAreEmptyAgain() {
        SkinLeague x = Checks.league(2);
        for (int region = 0; region < 4; region++) {
            x.match(0, 1, region);
        }
        Checks.outOfRange("pass(0)", () -> x.pass(0));
        Checks.due("room(0, 10) after a pass that is refused", x.room(0, 10), 1);
        x.pass(1);
        for (int region = 0; region < 4; region++) {
            Checks.due("room(" + region + ", 10)", x.room(region, 10), 0);
        }
    }

    private static void manyDays() {
        SkinLeague x = Checks.league(2);
        for (int i = 1; i <= 505; i++) {
            Checks.due("pass(400)", x.pass(400), 400 * i);
        }
        Checks.due("match", x.match(0, 1, 0), 0);
        Checks.due("proof", x.proof(0, 202000), 1);
        Checks.due("clear", x.clear(0), 202000);
        Checks.due("ban", x.ban(0, 1000), 203000);
    }
}
