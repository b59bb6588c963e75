/** Promise 9: clear. */
public final class Promise09ClearTest {
    public static void main(String[] args) {
        ordinary();
        heirsComeBack();
        wrongInputs();
        Checks.end("promise 9");
    }

    private static void ordinary() {
        SkinLeague x = Checks.league(2);
        x.match(0, 1, 0);
        x.pass(7);
        x.match(0, 1, 0);
        x.proof(0, 5);
        x.proof(0, 0);
        x.proof(0, 7);
        Checks.due("clear(0) tells the earliest day", x.clear(0), 0);
        Checks.due("stands(0)", x.stands(0), true);
        Checks.due("stands(1): all proofs are cleared", x.stands(1), true);
        Checks.due("points", x.ranked(0, 0, 0), 6);
        Checks.notNow("clear(0) again", () -> x.clear(0));
        x.proof(0, 7);
        Checks.due("clear(0)", x.clear(0), 7);
    }

    private static void heirsComeBack() {
        SkinLeague x = Checks.leagueWithSkins();
        x.player();
        x.proof(0, 0);
        Checks.due("the heir of skin 0", x.skinOf(0, 0), 1);
        x.proof(3, 0);
        x.sell(0, 3, 20);
        Checks.due("money of 1", x.money(1), 20);
        x.lend(1, 3, 9);
        Checks.due("clear(0)", x.clear(0), 0);
        Checks.due("the sale is undone", x.money(1), 0);
        Checks.due("the sale is undone", x.money(3), 0);
        Checks.due("the holder of skin 0", x.skinOf(0, 0), 0);
        Checks.due("the holder of skin 1", x.skinOf(1, 0), 1);
        Checks.due("the user of skin 1", x.skinOf(1, 2), 1);
        Checks.due("the holder of skin 2", x.skinOf(2, 0), 2);
        Checks.due("clear(3) changes no heir", x.clear(3), 0);
        Checks.due("the holder of skin 0", x.skinOf(0, 0), 0);
    }

    private static void wrongInputs() {
        SkinLeague x = Checks.league(2);
        Checks.noSuch("clear(2)", () -> x.clear(2));
        Checks.noSuch("clear(-1)", () -> x.clear(-1));
        Checks.noSuch("clear(min)", () -> x.clear(Integer.MIN_VALUE));
        Checks.notNow("clear(0)", () -> x.clear(0));
        x.proof(1, 0);
        Checks.notNow("clear(0) when another is proven", () -> x.clear(0));
        Checks.due("clear(1)", x.clear(1), 0);
    }
}
