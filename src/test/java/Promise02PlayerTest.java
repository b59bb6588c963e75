/** Promise 2: player. */
public final class Promise02PlayerTest {
    public static void main(String[] args) {
        numberedFromZeroAtMostSixteen();
        oneMoreChangesNothing();
        aNewPlayerHasNothing();
        aPlayerMayComeLate();
        Checks.end("promise 2");
    }

    private static void numberedFromZeroAtMostSixteen() {
        SkinLeague x = new SkinLeague();
        for (int i = 0; i < 16; i++) {
            int next = i;
            Checks.noSuch("money(" + i + ") ahead of player()", () -> x.money(next));
            Checks.due("player()", x.player(), i);
            Checks.due("money of a new player", x.money(i), 0);
        }
        Checks.notNow("player() when there are 16", () -> x.player());
        Checks.notNow("player() when there are 16, again", () -> x.player());
        Checks.noSuch("money(16)", () -> x.money(16));
        Checks.due("match(15, 14, 0)", x.match(15, 14, 0), 0);
        Checks.due("match(0, 15, 0)", x.match(0, 15, 0), 1);
        Checks.due("points of the last player", x.ranked(0, 15, 0), 4);
        Checks.due("place of the last player", x.ranked(0, 15, 2), 1);
        Checks.due("end()", x.end(), 3);
        Checks.due("sell(0, 14, 3)", x.sell(0, 14, 3), true);
        Checks.due("money of the last player", x.money(15), 3);
    }

    private static void oneMoreChangesNothing() {
        Refused.notNow(() -> Checks.league(16), "player");
        Refused.notNow(() -> {
            SkinLeague x = Checks.league(16);
            x.match(0, 15, 0);
            x.end();
            x.proof(15, 0);
            x.ban(14, 3);
            return x;
        }, "player");
        SkinLeague x = Checks.league(16);
        x.match(15, 0, 0);
        x.end();
        x.sell(0, 0, 40);
        x.ban(15, 2);
        x.ban(0, 2);
        x.proof(15, 0);
        x.proof(0, 0);
        Checks.notNow("player() when there are 16", () -> x.player());
        int[] ends = {0, 15};
        for (int player : ends) {
            Checks.due("money of " + player, x.money(player), player == 0 ? -40 : 40);
            Checks.notNow("the ban of " + player, () -> x.match(player, 7, 0));
            Checks.due("the proof of " + player, x.clear(player), 0);
        }
        Checks.due("points of the last player", x.ranked(0, 15, 0), 3);
        Checks.due("heir", x.skinOf(0, 1), 15);
    }

    private static void aNewPlayerHasNothing() {
        SkinLeague x = Refused.busyLeague();
        Checks.due("player()", x.player(), 5);
        Checks.due("money(5)", x.money(5), 0);
        for (int season = 0; season < 3; season++) {
            for (int what = 0; what < 3; what++) {
                Checks.due("ranked(" + season + ", 5, " + what + ")", x.ranked(season, 5, what), 0);
            }
        }
        Checks.notNow("clear(5)", () -> x.clear(5));
        Checks.due("match(5, 0, 0): the player is not banned", x.match(5, 0, 0), 8);
        Checks.due("sell(2, 5, 1): nor proven", x.sell(2, 5, 1), true);
    }

    private static void aPlayerMayComeLate() {
        SkinLeague x = Checks.leagueWithSkins();
        x.pass(9);
        Checks.due("player()", x.player(), 3);
        Checks.due("ranked(0, 3, 2)", x.ranked(0, 3, 2), 0);
        Checks.due("match(3, 0, 0)", x.match(3, 0, 0), 3);
    }
}
