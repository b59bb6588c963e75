/** Promise 10: ban. */
public final class Promise10BanTest {
    public static void main(String[] args) {
        leastAndGreatestDays();
        inPlaceOfAnother();
        whatABannedPlayerMayNotDo();
        whatABanLeaves();
        wrongInputs();
        Checks.end("promise 10");
    }

    private static void leastAndGreatestDays() {
        SkinLeague x = Checks.league(2);
        Checks.due("ban(0, 0)", x.ban(0, 0), 0);
        Checks.due("match", x.match(0, 1, 0), 0);
        Checks.due("ban(0, 1)", x.ban(0, 1), 1);
        Checks.notNow("match", () -> x.match(0, 1, 0));
        x.pass(1);
        Checks.due("match", x.match(0, 1, 0), 1);
        Checks.due("ban(0, 1000)", x.ban(0, 1000), 1001);
        x.pass(400);
        x.pass(400);
        x.pass(199);
        Checks.notNow("match on the last day of the ban", () -> x.match(0, 1, 0));
        x.pass(1);
        Checks.due("match", x.match(0, 1, 0), 2);
        Checks.due("ban(1, 3)", x.ban(1, 3), 1004);
        x.pass(400);
        Checks.due("match long after the ban", x.match(1, 0, 0), 3);
    }

    private static void inPlaceOfAnother() {
        SkinLeague x = Checks.league(2);
        x.ban(0, 100);
        Checks.due("a shorter ban", x.ban(0, 2), 2);
        x.pass(2);
        Checks.due("match", x.match(0, 1, 0), 0);
        x.ban(0, 5);
        x.pass(1);
        Checks.due("ban(0, 0)", x.ban(0, 0), 3);
        Checks.due("match", x.match(0, 1, 0), 1);
        Checks.due("ban(0, 1)", x.ban(0, 1), 4);
        Checks.due("a longer ban", x.ban(0, 2), 5);
        x.pass(1);
        Checks.notNow("match", () -> x.match(1, 0, 0));
        Checks.due("the same ban from today on", x.ban(0, 2), 6);
        x.pass(1);
        Checks.notNow("match", () -> x.match(1, 0, 0));
    }

    private static void whatABannedPlayerMayNotDo() {
        SkinLeague x = Checks.leagueWithSkins();
        x.ban(0, 1);
        Checks.notNow("win", () -> x.match(0, 1, 0));
        Checks.notNow("lose", () -> x.match(1, 0, 0));
        Checks.notNow("sell", () -> x.sell(0, 1, 5));
        Checks.notNow("buy", () -> x.sell(1, 0, 5));
        Checks.notNow("lend", () -> x.lend(0, 1, 5));
        Checks.notNow("borrow", () -> x.lend(1, 0, 5));
        Checks.due("others play", x.match(1, 2, 0), 3);
        Checks.due("others lend", x.lend(1, 2, 5), 4);
        Checks.due("others sell", x.sell(1, 2, 5), true);
        x.pass(1);
        Checks.due("win", x.match(0, 1, 0), 4);
        Checks.due("lose", x.match(1, 0, 0), 5);
        Checks.due("lend", x.lend(0, 1, 5), 5);
        Checks.due("borrow", x.lend(1, 0, 5), 5);
        Checks.due("sell", x.sell(0, 1, 5), true);
        Checks.due("buy", x.sell(1, 0, 5), true);
    }

    private static void whatABanLeaves() {
        SkinLeague x = Checks.leagueWithSkins();
        x.lend(0, 1, 9);
        x.lend(1, 0, 9);
        x.ban(0, 9);
        Checks.due("a banned player holds", x.skinOf(0, 0), 0);
        Checks.due("what was lent is used", x.skinOf(0, 2), 1);
        Checks.due("by a banned player too", x.skinOf(1, 2), 0);
        Checks.due("has points", x.ranked(0, 0, 2), 1);
        Checks.due("and matches that stand", x.stands(0), true);
        x.proof(1, 0);
        x.clear(1);
        x.proof(0, 0);
        x.clear(0);
        Checks.due("a banned player is an heir", x.skinOf(0, 0), 0);
        x.match(1, 2, 0);
        Checks.due("a season ends with a banned player", x.end(), 2);
        Checks.notNow("the ban is as it was", () -> x.match(0, 1, 0));
    }

    private static void wrongInputs() {
        int[] noPlayers = {-1, 5, 15, 16, Integer.MIN_VALUE, Integer.MAX_VALUE};
        int[] noDays = {-1, 1001, Integer.MIN_VALUE, Integer.MAX_VALUE};
        for (int player : noPlayers) {
            Refused.noSuch("ban", player, 0);
            Refused.noSuch("ban", player, 1000);
            for (int days : noDays) {
                Refused.noSuch("ban", player, days);
            }
        }
        for (int days : noDays) {
            Refused.outOfRange("ban", 0, days);
            Refused.outOfRange("ban", 4, days);
        }
    }
}
