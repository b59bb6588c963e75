/** Promise 7: lend. */
public final class Promise07LendTest {
    public static void main(String[] args) {
        leastAndGreatestDays();
        inPlaceOfAnother();
        aSaleEndsIt();
        goingBackEndsIt();
        whatLeavesIt();
        whoMayLend();
        bans();
        noSuchArguments();
        daysOutOfRange();
        notNow();
        Checks.end("promise 7");
    }

    private static void leastAndGreatestDays() {
        SkinLeague x = Checks.leagueWithSkins();
        Checks.due("lend(0, 1, 1)", x.lend(0, 1, 1), 0);
        Checks.due("the user", x.skinOf(0, 2), 1);
        Checks.due("the holder", x.skinOf(0, 0), 0);
        Checks.due("the heir", x.skinOf(0, 1), 0);
        x.pass(1);
        Checks.due("the user after the last day", x.skinOf(0, 2), 0);
        Checks.due("lend(0, 2, 100)", x.lend(0, 2, 100), 100);
        x.pass(99);
        Checks.due("the user on the last day", x.skinOf(0, 2), 2);
        x.pass(1);
        Checks.due("the user after the last day", x.skinOf(0, 2), 0);
        Checks.due("lend(2, 0, 2): the last skin", x.lend(2, 0, 2), 102);
        x.pass(1);
        Checks.due("the user on the last day", x.skinOf(2, 2), 0);
        x.pass(400);
        Checks.due("the user long after it", x.skinOf(2, 2), 2);
    }

    private static void inPlaceOfAnother() {
        SkinLeague x = Checks.leagueWithSkins();
        x.lend(0, 1, 50);
        Checks.due("lend(0, 2, 2)", x.lend(0, 2, 2), 1);
        Checks.due("the user", x.skinOf(0, 2), 2);
        Checks.due("lend(0, 2, 1) to the same", x.lend(0, 2, 1), 0);
        x.pass(1);
        Checks.due("neither lending comes back", x.skinOf(0, 2), 0);
        x.lend(0, 2, 1);
        Checks.due("lend(0, 2, 3) to the same", x.lend(0, 2, 3), 3);
        x.pass(2);
        Checks.due("the longer one counts", x.skinOf(0, 2), 2);
    }

    private static void aSaleEndsIt() {
        SkinLeague x = Checks.leagueWithSkins();
        x.lend(0, 2, 50);
        x.sell(0, 1, 5);
        Checks.due("the user", x.skinOf(0, 2), 1);
        x.sell(0, 0, 5);
        Checks.due("the user, when the lender holds it again", x.skinOf(0, 2), 0);
        x.lend(1, 2, 50);
        x.sell(1, 2, 5);
        Checks.due("the user is who bought it", x.skinOf(1, 2), 2);
        x.sell(1, 1, 5);
        Checks.due("the lending does not come back", x.skinOf(1, 2), 1);
    }

    private static void goingBackEndsIt() {
        SkinLeague x = Checks.leagueWithSkins();
        x.player();
        x.lend(1, 3, 50);
        x.lend(2, 3, 50);
        x.proof(0, 0);
        Checks.due("the holder of a skin that goes back", x.skinOf(1, 0), 2);
        Checks.due("uses it", x.skinOf(1, 2), 2);
        Checks.due("nobody uses a skin that goes back to nobody", x.skinOf(2, 2), SkinLeague.NONE);
        x.clear(0);
        Checks.due("the lending does not come back", x.skinOf(1, 2), 1);
        Checks.due("the lending does not come back", x.skinOf(2, 2), 2);
        // 3 holds skin 0 by a sale out of faith and lends it to 1, to whom it goes back.
        x.proof(3, 0);
        x.sell(0, 3, 5);
        x.lend(0, 1, 50);
        x.proof(0, 0);
        Checks.due("who borrowed it holds it", x.skinOf(0, 0), 1);
        Checks.due("and uses it", x.skinOf(0, 2), 1);
        Checks.due("lend(0, 2, 1)", x.lend(0, 2, 1), 0);
        x.pass(1);
        Checks.due("the user", x.skinOf(0, 2), 1);
    }

    private static void whatLeavesIt() {
        SkinLeague x = Checks.leagueWithSkins();
        x.player();
        x.lend(0, 2, 50);
        x.ban(2, 5);
        Checks.due("a ban of the borrower", x.skinOf(0, 2), 2);
        x.ban(0, 5);
        Checks.due("a ban of the holder", x.skinOf(0, 2), 2);
        x.ban(2, 0);
        x.ban(0, 0);
        x.end();
        Checks.due("the end of a season", x.skinOf(0, 2), 2);
        x.sell(0, 1, 5);
        x.lend(0, 0, 50);
        x.proof(0, 0);
        Checks.due("the heir of a good skin changed", x.skinOf(0, 1), 1);
        Checks.due("the lending goes on", x.skinOf(0, 2), 0);
        x.clear(0);
        Checks.due("the lending goes on", x.skinOf(0, 2), 0);
        x.lend(2, 3, 50);
        x.proof(3, 0);
        Checks.due("a proof that changes no heir", x.skinOf(2, 2), 3);
        x.clear(3);
        Checks.due("a clearing that changes no heir", x.skinOf(2, 2), 3);
    }

    private static void whoMayLend() {
        SkinLeague x = Checks.leagueWithSkins();
        Checks.notNow("the borrower holds it", () -> x.lend(0, 0, 1));
        x.lend(0, 1, 5);
        Checks.notNow("the borrower holds it, another one uses it", () -> x.lend(0, 0, 1));
        Checks.due("the lending is as it was", x.skinOf(0, 2), 1);
        x.proof(2, 0);
        Checks.due("a proven player may borrow", x.lend(0, 2, 2), 1);
        x.sell(1, 2, 7);
        Checks.due("a proven player may lend", x.lend(1, 0, 2), 1);
        x.clear(2);
        x.proof(0, 0);
        x.proof(1, 0);
        Checks.notNow("nobody holds it", () -> x.lend(0, 2, 1));
        Checks.due("nobody uses it", x.skinOf(0, 2), -1);
        x.clear(1);
        Checks.due("somebody holds it", x.lend(0, 2, 1), 0);
    }

    private static void bans() {
        SkinLeague x = Checks.leagueWithSkins();
        x.ban(1, 2);
        Checks.notNow("the borrower is banned", () -> x.lend(0, 1, 1));
        Checks.notNow("the holder is banned", () -> x.lend(1, 0, 1));
        x.pass(1);
        Checks.notNow("the borrower on the last day of the ban", () -> x.lend(0, 1, 1));
        Checks.notNow("the holder on the last day of the ban", () -> x.lend(1, 0, 1));
        x.pass(1);
        Checks.due("the holder's ban is over", x.lend(1, 0, 1), 2);
        Checks.due("the borrower's ban is over", x.lend(0, 1, 1), 2);
    }

    private static void noSuchArguments() {
        int[] noNumbers = {-1, 5, Integer.MIN_VALUE, Integer.MAX_VALUE};
        for (int number : noNumbers) {
            Refused.noSuch("lend", number, 0, 1);
            Refused.noSuch("lend", 0, number, 100);
            Refused.noSuch("lend", number, number, 5);
            // Ahead of days that are out of range, and of each reason of what is not possible now.
            Refused.noSuch("lend", number, 0, 0);
            Refused.noSuch("lend", 1, number, 101);
            Refused.noSuch("lend", number, 4, 5);
            Refused.noSuch("lend", 3, number, 5);
            Refused.noSuch("lend", 0, number, 5);
        }
        Refused.noSuch("lend", 35, 0, 5);
        Refused.noSuch("lend", 36, 0, 5);
        Refused.noSuch("lend", 0, 15, 5);
        Refused.noSuch("lend", 0, 16, 5);
    }

    private static void daysOutOfRange() {
        int[] noDays = {0, -1, 101, Integer.MIN_VALUE, Integer.MAX_VALUE};
        for (int days : noDays) {
            Refused.outOfRange("lend", 2, 0, days);
            Refused.outOfRange("lend", 1, 2, days);
            // Ahead of: the borrower holds it, one of both is banned, nobody holds it.
            Refused.outOfRange("lend", 2, 2, days);
            Refused.outOfRange("lend", 0, 1, days);
            Refused.outOfRange("lend", 2, 4, days);
            Refused.outOfRange("lend", 3, 1, days);
        }
    }

    private static void notNow() {
        Refused.notNow("lend", 3, 0, 1);
        Refused.notNow("lend", 4, 3, 5);
        Refused.notNow("lend", 0, 4, 5);
        Refused.notNow("lend", 1, 0, 100);
        Refused.notNow("lend", 2, 2, 5);
        Refused.notNow("lend", 0, 1, 5);
        Refused.notNow("lend", 2, 4, 5);
    }
}
