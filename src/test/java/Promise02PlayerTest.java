/** Promise 2: player. */
public final class Promise02PlayerTest {
    public static void main(String[] args) {
        SkinLeague x = new SkinLeague();
        for (int i = 0; i < 16; i++) {
            Checks.due("player()", x.player(), i);
            Checks.due("money of a new player", x.money(i), 0);
        }
        Checks.notNow("player() when there are 16", () -> x.player());
        Checks.notNow("player() when there are 16, again", () -> x.player());
        Checks.noSuch("money(16)", () -> x.money(16));
        Checks.due("match(15, 14, 0)", x.match(15, 14, 0), 0);
        aPlayerMayComeLate();
        Checks.end("promise 2");
    }

    private static void aPlayerMayComeLate() {
        SkinLeague x = Checks.leagueWithSkins();
        x.pass(9);
        Checks.due("player()", x.player(), 3);
        Checks.due("ranked(0, 3, 2)", x.ranked(0, 3, 2), 0);
        Checks.due("match(3, 0, 0)", x.match(3, 0, 0), 3);
    }
}
