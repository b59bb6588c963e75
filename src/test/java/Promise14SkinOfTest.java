/** Promise 14: skinOf. */
public final class Promise14SkinOfTest {
    public static void main(String[] args) {
        SkinLeague x = Checks.leagueWithSkins();
        facts(x, 1, 1, 1, 1, 0, 2, 0, 0);
        x.lend(1, 2, 2);
        facts(x, 1, 1, 1, 2, 0, 2, 0, 0);
        x.proof(2, 0);
        x.sell(1, 2, 5);
        facts(x, 1, 2, 1, 2, 0, 2, 1, 0);
        x.sell(1, 0, 5);
        facts(x, 1, 0, 1, 0, 0, 2, 2, 0);
        x.sell(1, 1, 5);
        facts(x, 1, 1, 1, 1, 0, 2, 3, 1);
        x.proof(0, 0);
        facts(x, 1, 1, 2, 1, 0, 2, 3, 1);
        facts(x, 0, 1, 1, 1, 0, 1, 0, 0);
        facts(x, 2, -1, -1, -1, 0, 3, 0, 0);
        x.match(2, 1, 0);
        x.clear(2);
        x.match(2, 1, 0);
        x.end();
        facts(x, 3, 2, 2, 2, 1, 1, 0, 0);
        Checks.noSuch("skinOf(5, 0)", () -> x.skinOf(5, 0));
        Checks.noSuch("skinOf(-1, 0)", () -> x.skinOf(-1, 0));
        Checks.noSuch("skinOf(5, 7)", () -> x.skinOf(5, 7));
        Checks.noSuch("skinOf(36, 0)", () -> x.skinOf(36, 0));
        Checks.noSuch("skinOf(max, 0)", () -> x.skinOf(Integer.MAX_VALUE, 0));
        Checks.outOfRange("skinOf(0, 7)", () -> x.skinOf(0, 7));
        Checks.outOfRange("skinOf(0, -1)", () -> x.skinOf(0, -1));
        Checks.end("promise 14");
    }

    private static void facts(SkinLeague x, int skin, int... want) {
        for (int what = 0; what < want.length; what++) {
            Checks.due("skinOf(" + skin + ", " + what + ")", x.skinOf(skin, what), want[what]);
        }
    }
}
