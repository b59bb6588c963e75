/** Promise 15: money. */
public final class Promise15MoneyTest {
    public static void main(String[] args) {
        ordinary();
        farBelowZero();
        whatIsRefusedIsNotPaid();
        noSuchPlayer();
        Checks.end("promise 15");
    }

    private static void money(SkinLeague x, int... want) {
        for (int player = 0; player < want.length; player++) {
            Checks.due("money(" + player + ")", x.money(player), want[player]);
        }
    }

    private static void ordinary() {
        SkinLeague x = Checks.leagueWithSkins();
        money(x, 0, 0, 0);
        x.sell(0, 1, 10000);
        money(x, 10000, -10000, 0);
        x.sell(0, 2, 0);
        money(x, 10000, -10000, 0);
        x.sell(1, 2, 600);
        money(x, 10000, -9400, -600);
        x.lend(0, 1, 5);
        x.match(1, 2, 1);
        x.end();
        x.pass(3);
        money(x, 10000, -9400, -600);
        x.proof(0, 0);
        // Place 1 goes from 0 to 1 for 10000, place 2 from 1 to 2 for 600.
        money(x, 0, 0, 0);
        x.clear(0);
        money(x, 10000, -9400, -600);
    }

    private static void farBelowZero() {
        SkinLeague x = Checks.league(3);
        x.match(0, 1, 0);
        x.end();
        for (int i = 0; i < 10; i++) {
            x.sell(0, 1, 10000);
            money(x, 10000 * (i + 1), -10000 * (i + 1), 0);
            x.sell(0, 0, 0);
        }
        Checks.notNow("sale 20", () -> x.sell(0, 1, 10000));
        money(x, 100000, -100000, 0);
        x.sell(1, 2, 10000);
        money(x, 100000, -90000, -10000);
    }

    private static void whatIsRefusedIsNotPaid() {
        SkinLeague x = Checks.leagueWithSkins();
        x.sell(0, 1, 50);
        Checks.notNow("sell(0, 1, 9)", () -> x.sell(0, 1, 9));
        Checks.outOfRange("sell(0, 2, 10001)", () -> x.sell(0, 2, 10001));
        Checks.outOfRange("sell(0, 2, -1)", () -> x.sell(0, 2, -1));
        Checks.noSuch("sell(3, 2, 9)", () -> x.sell(3, 2, 9));
        Checks.outOfRange("proof(0, 1)", () -> x.proof(0, 1));
        Checks.notNow("clear(0)", () -> x.clear(0));
        money(x, 50, -50, 0);
    }

    private static void noSuchPlayer() {
        int[] noPlayers = {-1, 5, 15, 16, Integer.MIN_VALUE, Integer.MAX_VALUE};
        for (int player : noPlayers) {
            Refused.noSuch("money", player);
            Refused.noSuch(SkinLeague::new, "money", player);
        }
        SkinLeague x = Checks.league(16);
        Checks.due("money(15)", x.money(15), 0);
        Checks.noSuch("money(16)", () -> x.money(16));
    }
}
