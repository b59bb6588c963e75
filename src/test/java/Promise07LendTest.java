/** Promise 7: lend. */
public final class Promise07LendTest {
    public static void main(String[] args) {
        lastDays();
        inPlaceOfAnother();
        whatEndsIt();
        notNow();
        wrongInputs();
        Checks.end("promise 7");
    }

    private static void lastDays() {
        SkinLeague x = Checks.leagueWithSkins();
        Checks.due("lend(0, 1, 1)", x.lend(0, 1, 1), 0);
        Checks.due("the user", x.skinOf(0, 2), 1);
        Checks.due("the holder", x.skinOf(0, 0), 0);
        x.pass(1);
        Checks.due("the user after the last day", x.skinOf(0, 2), 0);
        Checks.due("lend(0, 2, 100)", x.lend(0, 2, 100), 100);
        x.pass(99);
        Checks.due("the user on the last day", x.skinOf(0, 2), 2);
        x.pass(1);
        Checks.due("the user after the last day", x.skinOf(0, 2), 0);
    }

    private static void inPlaceOfAnother() {
        SkinLeague x = Checks.leagueWithSkins();
        x.lend(0, 1, 50);
        Checks.due("lend(0, 2, 2)", x.lend(0, 2, 2), 1);
        Checks.due("the user", x.skinOf(0, 2), 2);
        Checks.due("lend(0, 2, 3) to the same", x.lend(0, 2, 3), 2);
        x.pass(3);
        Checks.due("the first lending does not come back", x.skinOf(0, 2), 0);
    }

    private static void whatEndsIt() {
        SkinLeague x = Checks.leagueWithSkins();
        x.player();
        x.lend(0, 2, 50);
        x.ban(2, 5);
        Checks.due("a ban leaves the lending", x.skinOf(0, 2), 2);
        x.ban(2, 0);
        x.sell(0, 1, 5);
        Checks.due("a sale ends it", x.skinOf(0, 2), 1);
        x.lend(0, 0, 50);
        x.proof(0, 0);
        Checks.due("the heir of a good skin changed", x.skinOf(0, 1), 1);
        Checks.due("the lending goes on", x.skinOf(0, 2), 0);
        x.clear(0);
        Checks.due("the lending goes on", x.skinOf(0, 2), 0);
        x.lend(1, 3, 50);
        x.proof(0, 0);
        Checks.due("a skin that goes back", x.skinOf(1, 0), 2);
        Checks.due("is not lent", x.skinOf(1, 2), 2);
        x.clear(0);
        Checks.due("nor when it comes back", x.skinOf(1, 2), 1);
        x.lend(2, 3, 50);
        x.proof(3, 0);
        Checks.due("a proof that changes no heir", x.skinOf(2, 2), 3);
    }

    private static void notNow() {
        SkinLeague x = Checks.leagueWithSkins();
        Checks.notNow("the borrower holds it", () -> x.lend(0, 0, 1));
        x.ban(1, 2);
        Checks.notNow("the borrower is banned", () -> x.lend(0, 1, 1));
        Checks.notNow("the holder is banned", () -> x.lend(1, 0, 1));
        x.pass(1);
        Checks.notNow("the holder is still banned", () -> x.lend(1, 0, 1));
        x.pass(1);
        Checks.due("the ban is over", x.lend(1, 0, 1), 2);
        x.proof(0, 0);
        x.proof(1, 0);
        Checks.notNow("nobody holds it", () -> x.lend(0, 2, 1));
        Checks.due("nobody uses it", x.skinOf(0, 2), -1);
        Checks.due("nobody uses what was lent", x.skinOf(1, 2), -1);
    }

    private static void wrongInputs() {
        SkinLeague x = Checks.leagueWithSkins();
        x.ban(0, 5);
        Checks.noSuch("lend(3, 1, 1)", () -> x.lend(3, 1, 1));
        Checks.noSuch("lend(-1, 1, 1)", () -> x.lend(-1, 1, 1));
        Checks.noSuch("lend(0, 3, 1)", () -> x.lend(0, 3, 1));
        Checks.noSuch("lend(0, -1, 1)", () -> x.lend(0, -1, 1));
        Checks.noSuch("lend(3, 1, 0)", () -> x.lend(3, 1, 0));
        Checks.noSuch("lend(0, 3, 101)", () -> x.lend(0, 3, 101));
        Checks.noSuch("lend(min, max, 1)", () -> x.lend(Integer.MIN_VALUE, Integer.MAX_VALUE, 1));
        Checks.outOfRange("lend(0, 0, 0)", () -> x.lend(0, 0, 0));
        Checks.outOfRange("lend(0, 1, -1)", () -> x.lend(0, 1, -1));
        Checks.outOfRange("lend(0, 1, 101)", () -> x.lend(0, 1, 101));
        Checks.due("the user", x.skinOf(0, 2), 0);
    }
}
