/** Promise 11: pass. */
public final class Promise11PassTest {
    public static void main(String[] args) {
        leastAndGreatestDays();
        regionsAreEmptyAgain();
        whatADayLeaves();
        manyDays();
        wrongInputs();
        Checks.end("promise 11");
    }

    private static void leastAndGreatestDays() {
        SkinLeague x = Checks.league(2);
        Checks.due("pass(1)", x.pass(1), 1);
        Checks.due("pass(400)", x.pass(400), 401);
        Checks.outOfRange("pass(0)", () -> x.pass(0));
        Checks.outOfRange("pass(401)", () -> x.pass(401));
        Checks.due("pass(2)", x.pass(2), 403);
        Checks.due("end() leaves the day", x.end(), 0);
        Checks.due("pass(3)", x.pass(3), 406);
        Checks.due("ban(0, 0) tells the day", x.ban(0, 0), 406);
        Checks.due("pass(400)", new SkinLeague().pass(400), 400);
    }

    private static void regionsAreEmptyAgain() {
        SkinLeague x = Checks.league(2);
        for (int region = 0; region < 4; region++) {
            x.match(0, 1, region);
        }
        Checks.outOfRange("pass(0)", () -> x.pass(0));
        Checks.due("room(0, 10) after a pass that is refused", x.room(0, 10), 1);
        x.pass(1);
        for (int region = 0; region < 4; region++) {
            Checks.due("room(" + region + ", 10)", x.room(region, 10), 0);
        }
    }

    private static void whatADayLeaves() {
        SkinLeague x = Refused.busyLeague();
        Checks.due("pass(400)", x.pass(400), 402);
        Checks.due("the season", x.ranked(2, 2, 0), 4);
        Checks.noSuch("the next season", () -> x.ranked(3, 2, 0));
        Checks.due("a match that does not stand", x.stands(3), false);
        Checks.due("a match that stands", x.stands(7), true);
        Checks.due("a sale", x.skinOf(0, 0), 4);
        Checks.due("money", x.money(4), -50);
        Checks.notNow("no room", () -> x.match(0, 1, 2));
        Checks.due("a proof", x.clear(3), 1);
    }

    private static void manyDays() {
        SkinLeague x = Checks.league(2);
        for (int i = 1; i <= 505; i++) {
            Checks.due("pass(400)", x.pass(400), 400 * i);
        }
        Checks.due("match", x.match(0, 1, 0), 0);
        Checks.due("proof", x.proof(0, 202000), 1);
        Checks.due("clear", x.clear(0), 202000);
        Checks.due("ban", x.ban(0, 1000), 203000);
    }

    private static void wrongInputs() {
        int[] noDays = {0, -1, 401, Integer.MIN_VALUE, Integer.MAX_VALUE};
        for (int days : noDays) {
            Refused.outOfRange("pass", days);
            Refused.outOfRange(SkinLeague::new, "pass", days);
        }
    }
}
