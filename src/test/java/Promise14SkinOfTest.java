/** Promise 14: skinOf. */
public final class Promise14SkinOfTest {
    public static void main(String[] args) {
        eachFact();
        nobody();
        noSaleAndTwenty();
        noSuchSkin();
        whatOutOfRange();
        Checks.end("promise 14");
    }

    private static void facts(SkinLeague x, int skin, int... want) {
        for (int what = 0; what < want.length; what++) {
            Checks.due("skinOf(" + skin + ", " + what + ")", x.skinOf(skin, what), want[what]);
        }
    }

    private static void eachFact() {
        SkinLeague x = Checks.leagueWithSkins();
        facts(x, 0, 0, 0, 0, 0, 1, 0, 0);
        facts(x, 1, 1, 1, 1, 0, 2, 0, 0);
        facts(x, 2, 2, 2, 2, 0, 3, 0, 0);
        x.lend(1, 2, 2);
        facts(x, 1, 1, 1, 2, 0, 2, 0, 0);
        x.proof(2, 0);
        x.sell(1, 2, 5);
        facts(x, 1, 2, 1, 2, 0, 2, 1, 0);
        x.sell(1, 0, 5);
        facts(x, 1, 0, 1, 0, 0, 2, 2, 0);
        x.sell(1, 1, 5);
        facts(x, 1, 1, 1, 1, 0, 2, 3, 1);
        x.proof(0, 0);
        facts(x, 1, 1, 2, 1, 0, 2, 3, 1);
        facts(x, 0, 1, 1, 1, 0, 1, 0, 0);
        facts(x, 2, -1, -1, -1, 0, 3, 0, 0);
        x.match(2, 1, 0);
        x.clear(2);
        x.match(2, 1, 0);
        x.end();
        facts(x, 3, 2, 2, 2, 1, 1, 0, 0);
        facts(x, 4, 1, 1, 1, 1, 2, 0, 0);
    }

    private static void nobody() {
        SkinLeague x = Checks.leagueWithSkins();
        x.sell(1, 0, 9);
        x.lend(1, 2, 1);
        x.proof(0, 0);
        x.proof(1, 0);
        facts(x, 0, -1, -1, -1, 0, 1, 0, 0);
        facts(x, 1, 0, -1, 2, 0, 2, 1, 1);
        facts(x, 2, -1, -1, -1, 0, 3, 0, 0);
        x.pass(1);
        facts(x, 1, 0, -1, 0, 0, 2, 1, 1);
    }

    private static void noSaleAndTwenty() {
        SkinLeague x = Checks.leagueWithSkins();
        facts(x, 0, 0, 0, 0, 0, 1, 0, 0);
        for (int i = 0; i < 20; i++) {
            x.sell(0, 1 - i % 2, 1);
            facts(x, 0, 1 - i % 2, 0, 1 - i % 2, 0, 1, i + 1, 1);
        }
        Checks.notNow("sell(0, 1, 1)", () -> x.sell(0, 1, 1));
        facts(x, 0, 0, 0, 0, 0, 1, 20, 1);
    }

    private static void noSuchSkin() {
        int[] noSkins = {-1, 5, 32, 33, 35, 36, Integer.MIN_VALUE, Integer.MAX_VALUE};
        for (int skin : noSkins) {
            Refused.noSuch("skinOf", skin, 0);
            Refused.noSuch("skinOf", skin, 6);
            Refused.noSuch("skinOf", skin, -1);
            Refused.noSuch("skinOf", skin, 7);
        }
        SkinLeague x = Checks.league(2);
        x.match(0, 1, 0);
        Checks.noSuch("skinOf(0, 0) ahead of the season's end", () -> x.skinOf(0, 0));
        x.end();
        Checks.due("skinOf(1, 0)", x.skinOf(1, 0), 1);
        Checks.noSuch("skinOf(2, 0)", () -> x.skinOf(2, 0));
    }

    private static void whatOutOfRange() {
        int[] noWhats = {-1, 7, Integer.MIN_VALUE, Integer.MAX_VALUE};
        for (int what : noWhats) {
            for (int skin = 0; skin < 5; skin++) {
                Refused.outOfRange("skinOf", skin, what);
            }
        }
    }
}
