/** Promise 9: clear. */
public final class Promise09ClearTest {
    public static void main(String[] args) {
        leastAndGreatestDay();
        allProofsAreCleared();
        heirsComeBack();
        aGoodSkinIsPaidBack();
        fromNobodyToAnHeir();
        noSuchPlayer();
        notProven();
        Checks.end("promise 9");
    }

    private static void leastAndGreatestDay() {
        SkinLeague x = Checks.league(3);
        x.proof(0, 0);
        Checks.due("clear(0) of day 0", x.clear(0), 0);
        x.pass(300);
        x.proof(0, 0);
        x.proof(1, 300);
        x.proof(2, 299);
        Checks.due("clear(0) of the first day", x.clear(0), 0);
        Checks.due("clear(1) of today", x.clear(1), 300);
        x.pass(1);
        Checks.due("clear(2): the last player, days later", x.clear(2), 299);
    }

    private static void allProofsAreCleared() {
        SkinLeague x = Checks.league(2);
        x.match(0, 1, 0);
        x.pass(7);
        x.match(0, 1, 0);
        x.proof(0, 5);
        x.proof(0, 0);
        x.proof(0, 7);
        Checks.due("clear(0) tells the earliest day", x.clear(0), 0);
        Checks.due("stands(0)", x.stands(0), true);
        Checks.due("stands(1)", x.stands(1), true);
        Checks.due("points", x.ranked(0, 0, 0), 6);
        Checks.notNow("clear(0) again", () -> x.clear(0));
        x.proof(0, 7);
        Checks.due("stands(0): the earlier proofs do not come back", x.stands(0), true);
        Checks.due("clear(0)", x.clear(0), 7);
    }

    private static void heirsComeBack() {
        SkinLeague x = Checks.leagueWithSkins();
        x.player();
        x.proof(0, 0);
        Checks.due("the heir of skin 0", x.skinOf(0, 0), 1);
        x.proof(3, 0);
        x.sell(0, 3, 20);
        Checks.due("money of 1", x.money(1), 20);
        x.lend(1, 3, 9);
        Checks.due("clear(0)", x.clear(0), 0);
        Checks.due("the sale is undone", x.money(1), 0);
        Checks.due("the sale is undone", x.money(3), 0);
        Checks.due("the holder of skin 0", x.skinOf(0, 0), 0);
        Checks.due("the holder of skin 1", x.skinOf(1, 0), 1);
        Checks.due("the user of skin 1", x.skinOf(1, 2), 1);
        Checks.due("the holder of skin 2", x.skinOf(2, 0), 2);
        Checks.due("clear(3) changes no heir", x.clear(3), 0);
        Checks.due("the holder of skin 0", x.skinOf(0, 0), 0);
    }

    private static void aGoodSkinIsPaidBack() {
        SkinLeague x = Checks.leagueWithSkins();
        x.proof(0, 0);
        x.sell(0, 2, 40);
        x.clear(0);
        Checks.due("the heir of a good skin", x.skinOf(0, 1), 0);
        Checks.due("its holder", x.skinOf(0, 0), 2);
        Checks.due("its sales", x.skinOf(0, 5), 1);
        Checks.due("1 sold it for 40 and pays 40 to 0", x.money(1), 0);
        Checks.due("money of 0", x.money(0), 40);
        Checks.due("money of 2", x.money(2), -40);
    }

    private static void fromNobodyToAnHeir() {
        SkinLeague x = Checks.leagueWithSkins();
        x.sell(2, 0, 60);
        x.proof(0, 0);
        x.proof(1, 0);
        for (int skin = 0; skin < 3; skin++) {
            Checks.due("heir of skin " + skin, x.skinOf(skin, 1), SkinLeague.NONE);
        }
        Checks.due("the holder of a good skin", x.skinOf(2, 0), 0);
        x.clear(1);
        Checks.due("the holder of skin 0", x.skinOf(0, 0), 1);
        Checks.due("the holder of skin 1", x.skinOf(1, 0), 2);
        Checks.due("the heir of skin 2", x.skinOf(2, 1), SkinLeague.NONE);
        x.clear(0);
        Checks.due("the holder of skin 0", x.skinOf(0, 0), 0);
        Checks.due("the heir of the good skin", x.skinOf(2, 1), 2);
        Checks.due("its holder", x.skinOf(2, 0), 0);
        Checks.due("nobody paid", x.money(2), 60);
        Checks.due("nobody paid", x.money(1), 0);
    }

    private static void noSuchPlayer() {
        int[] noPlayers = {-1, 5, 15, 16, Integer.MIN_VALUE, Integer.MAX_VALUE};
        for (int player : noPlayers) {
            Refused.noSuch("clear", player);
        }
    }

    private static void notProven() {
        Refused.notNow("clear", 0);
        Refused.notNow("clear", 1);
        Refused.notNow("clear", 2);
        Refused.notNow("clear", 4);
        Refused.notNow(() -> {
            SkinLeague x = Refused.busyLeague();
            x.clear(3);
            return x;
        }, "clear", 3);
        SkinLeague x = Checks.league(2);
        Checks.notNow("clear(0)", () -> x.clear(0));
        x.proof(1, 0);
        Checks.notNow("clear(0) when another is proven", () -> x.clear(0));
        Checks.due("clear(1)", x.clear(1), 0);
        Checks.notNow("clear(1) again", () -> x.clear(1));
    }
}
