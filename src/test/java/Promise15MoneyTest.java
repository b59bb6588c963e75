/** Promise 15: money. */
public final class Promise15MoneyTest {
    public static void main(String[] args) {
        SkinLeague x = Checks.leagueWithSkins();
        money(x, 0, 0, 0);
        x.sell(0, 1, 10000);
        money(x, 10000, -10000, 0);
        x.sell(0, 2, 0);
        money(x, 10000, -10000, 0);
        x.sell(1, 2, 600);
        money(x, 10000, -9400, -600);
        x.proof(0, 0);
        // Place 1 goes from 0 to 1 for 10000, place 2 from 1 to 2 for 600.
        money(x, 0, 0, 0);
        x.clear(0);
        money(x, 10000, -9400, -600);
        Checks.notNow("sell(0, 2, 9)", () -> x.sell(0, 2, 9));
        money(x, 10000, -9400, -600);
        Checks.noSuch("money(3)", () -> x.money(3));
        Checks.noSuch("money(-1)", () -> x.money(-1));
        Checks.noSuch("money(16)", () -> x.money(16));
        Checks.noSuch("money(max)", () -> x.money(Integer.MAX_VALUE));
        Checks.noSuch("money(min)", () -> x.money(Integer.MIN_VALUE));
        Checks.end("promise 15");
    }

    private static void money(SkinLeague x, int... want) {
        for (int player = 0; player < want.length; player++) {
            Checks.due("money(" + player + ")", x.money(player), want[player]);
        }
    }
}
