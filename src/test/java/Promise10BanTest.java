/** Promise 10: ban. */
public final class Promise10BanTest {
    public static void main(String[] args) {
        days();
        inPlaceOfAnother();
        whatABanLeaves();
        wrongInputs();
        Checks.end("promise 10");
    }

    private static void days() {
        SkinLeague x = Checks.league(2);
        Checks.due("ban(0, 0)", x.ban(0, 0), 0);
        Checks.due("match", x.match(0, 1, 0), 0);
        Checks.due("ban(0, 1)", x.ban(0, 1), 1);
        Checks.notNow("match", () -> x.match(0, 1, 0));
        x.pass(1);
        Checks.due("match", x.match(0, 1, 0), 1);
        Checks.due("ban(0, 1000)", x.ban(0, 1000), 1001);
        x.pass(400);
        x.pass(400);
        x.pass(199);
        Checks.notNow("match on the last day of the ban", () -> x.match(0, 1, 0));
        x.pass(1);
        Checks.due("match", x.match(0, 1, 0), 2);
        Checks.due("ban(1, 3)", x.ban(1, 3), 1004);
    }

    private static void inPlaceOfAnother() {
        SkinLeague x = Checks.league(2);
        x.ban(0, 100);
        Checks.due("a shorter ban", x.ban(0, 2), 2);
        x.pass(2);
        Checks.due("match", x.match(0, 1, 0), 0);
        x.ban(0, 5);
        x.pass(1);
        Checks.due("ban(0, 0)", x.ban(0, 0), 3);
        Checks.due("match", x.match(0, 1, 0), 1);
        Checks.due("ban(0, 1)", x.ban(0, 1), 4);
        Checks.due("a longer ban", x.ban(0, 2), 5);
        x.pass(1);
        Checks.notNow("match", () -> x.match(1, 0, 0));
    }

    private static void whatABanLeaves() {
        SkinLeague x = Checks.leagueWithSkins();
        x.ban(0, 9);
        Checks.due("a banned player holds", x.skinOf(0, 0), 0);
        Checks.due("has points", x.ranked(0, 0, 2), 1);
        Checks.due("and matches that stand", x.stands(0), true);
        x.proof(1, 0);
        x.clear(1);
        x.proof(0, 0);
        x.clear(0);
        Checks.due("a banned player is an heir", x.skinOf(0, 0), 0);
        x.match(1, 2, 0);
        Checks.due("a season ends with a banned player", x.end(), 2);
    }

    private static void wrongInputs() {
        SkinLeague x = Checks.league(2);
        Checks.noSuch("ban(2, 1)", () -> x.ban(2, 1));
        Checks.noSuch("ban(-1, 1)", () -> x.ban(-1, 1));
        Checks.noSuch("ban(2, -1)", () -> x.ban(2, -1));
        Checks.outOfRange("ban(0, -1)", () -> x.ban(0, -1));
        Checks.outOfRange("ban(0, 1001)", () -> x.ban(0, 1001));
        Checks.outOfRange("ban(0, max)", () -> x.ban(0, Integer.MAX_VALUE));
        Checks.due("match", x.match(0, 1, 0), 0);
        x.ban(0, 3);
        Checks.outOfRange("ban(0, 1001)", () -> x.ban(0, 1001));
        Checks.notNow("the ban is as it was", () -> x.match(0, 1, 0));
    }
}
