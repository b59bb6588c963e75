/** Promise 8: proof, and what it undoes. */
public final class Promise08ProofTest {
    public static void main(String[] args) {
        matchesThatDoNotStand();
        theEarliestDayCounts();
        skinsThatAreNotGood();
        skinsThatAreGood();
        nobodyIsAnHeir();
        bothKindsOfSales();
        nothingIsUndoneTwice();
        severalSeasons();
        wrongInputs();
        Checks.end("promise 8");
    }

    private static void matchesThatDoNotStand() {
        SkinLeague x = Checks.league(3);
        x.match(0, 1, 0);
        x.pass(2);
        x.match(0, 1, 0);
        x.match(1, 0, 0);
        x.pass(2);
        x.match(0, 2, 0);
        Checks.due("proof(2, 0)", x.proof(2, 0), 0);
        Checks.due("proof(0, 4)", x.proof(0, 4), 1);
        Checks.due("proof(0, 3)", x.proof(0, 3), 1);
        Checks.due("proof(0, 2)", x.proof(0, 2), 2);
        Checks.due("proof(1, 0) counts those of all", x.proof(1, 0), 3);
        Checks.due("proof(0, 0)", x.proof(0, 0), 4);
        Checks.due("points", x.ranked(0, 1, 0), 0);
    }

    private static void theEarliestDayCounts() {
        SkinLeague x = Checks.league(2);
        x.match(0, 1, 0);
        x.pass(3);
        x.match(0, 1, 0);
        Checks.due("proof(0, 1)", x.proof(0, 1), 1);
        Checks.due("proof(0, 3)", x.proof(0, 3), 1);
        x.pass(1);
        Checks.due("proof(0, 4)", x.proof(0, 4), 1);
        Checks.due("stands(1)", x.stands(1), false);
        Checks.due("clear(0)", x.clear(0), 1);
        Checks.due("proof(0, 4) after it was cleared", x.proof(0, 4), 0);
        Checks.due("clear(0)", x.clear(0), 4);
    }

    private static void skinsThatAreNotGood() {
        SkinLeague x = Checks.leagueWithSkins();
        x.player();
        x.proof(3, 0);
        Checks.due("sell(0, 3, 100)", x.sell(0, 3, 100), false);
        Checks.due("sell(1, 3, 40)", x.sell(1, 3, 40), false);
        Checks.due("sell(2, 3, 7)", x.sell(2, 3, 7), false);
        x.clear(3);
        Checks.due("sell(0, 2, 250)", x.sell(0, 2, 250), true);
        Checks.due("sell(1, 0, 50)", x.sell(1, 0, 50), true);
        x.lend(2, 1, 30);
        Checks.due("money of 0", x.money(0), 50);
        Checks.due("money of 2", x.money(2), -243);
        Checks.due("money of 3", x.money(3), 153);
        Checks.due("proof(0, 0)", x.proof(0, 0), 2);
        Checks.due("the holder of a good skin", x.skinOf(0, 0), 2);
        Checks.due("its heir", x.skinOf(0, 1), 1);
        Checks.due("the heir of a good skin", x.skinOf(1, 1), 2);
        Checks.due("its holder", x.skinOf(1, 0), 0);
        Checks.due("the holder of a skin that is not good", x.skinOf(2, 0), -1);
        Checks.due("its heir", x.skinOf(2, 1), -1);
        Checks.due("its user", x.skinOf(2, 2), -1);
        Checks.due("its sales", x.skinOf(2, 5), 0);
        // 0 pays 250, the first price in faith, to 1; 1 pays 50 to 2; 2 pays 7 back to 3.
        Checks.due("money of 0", x.money(0), 50 - 250);
        Checks.due("money of 1", x.money(1), 40 + 250 - 50);
        Checks.due("money of 2", x.money(2), -243 + 50 - 7);
        Checks.due("money of 3", x.money(3), 153 + 7);
    }

    private static void skinsThatAreGood() {
        SkinLeague x = Checks.leagueWithSkins();
        x.sell(0, 2, 30);
        x.sell(0, 1, 70);
        x.sell(0, 0, 90);
        x.sell(0, 2, 5);
        int[] money = {x.money(0), x.money(1), x.money(2)};
        x.proof(0, 0);
        Checks.due("the sales", x.skinOf(0, 5), 4);
        Checks.due("the holder", x.skinOf(0, 0), 2);
        Checks.due("money of 0", x.money(0), money[0] - 30);
        Checks.due("money of 1", x.money(1), money[1] + 30);
        Checks.due("money of 2", x.money(2), money[2]);
        x.proof(0, 0);
        Checks.due("an heir that stays pays nothing", x.money(0), money[0] - 30);
        x.clear(0);
        Checks.due("it is paid back", x.money(0), money[0]);
        Checks.due("it is paid back", x.money(1), money[1]);
    }

    private static void nobodyIsAnHeir() {
        SkinLeague x = Checks.leagueWithSkins();
        x.sell(0, 2, 30);
        x.proof(0, 0);
        Checks.due("money of 1", x.money(1), 30);
        x.proof(1, 0);
        Checks.due("the heir of a good skin", x.skinOf(0, 1), -1);
        Checks.due("its holder", x.skinOf(0, 0), 2);
        Checks.due("nobody is paid", x.money(1), 30);
        x.sell(0, 0, 4);
        Checks.due("it may be sold without an heir", x.skinOf(0, 0), 0);
        x.clear(0);
        Checks.due("the heir", x.skinOf(0, 1), 0);
        Checks.due("nobody pays", x.money(0), 30 - 30 - 4);
        Checks.due("nobody holds the skins of other places", x.skinOf(1, 0), 1);
        Checks.due("money of 1", x.money(1), 30);
        x.clear(1);
        Checks.due("the heir", x.skinOf(0, 1), 0);
        Checks.due("the holder of skin 1", x.skinOf(1, 0), 1);
    }

    private static void bothKindsOfSales() {
        SkinLeague x = Checks.leagueWithSkins();
        x.player();
        x.proof(3, 0);
        x.sell(0, 3, 1000);
        x.sell(0, 1, 200);
        x.sell(0, 2, 30);
        x.proof(0, 0);
        Checks.due("the first sale in faith counts, not the first", x.money(0), 1000 - 30);
        Checks.due("money of 1", x.money(1), -200 + 30 + 30);
    }

    private static void nothingIsUndoneTwice() {
        SkinLeague x = Checks.leagueWithSkins();
        x.player();
        x.proof(3, 0);
        x.sell(0, 3, 100);
        x.sell(0, 2, 60);
        x.proof(0, 0);
        Checks.due("money of 0", x.money(0), 0);
        x.sell(0, 3, 5);
        Checks.due("the sales", x.skinOf(0, 5), 1);
        x.clear(0);
        Checks.due("money of 0", x.money(0), 0);
        Checks.due("money of 1", x.money(1), 0);
        Checks.due("money of 2", x.money(2), 0);
        Checks.due("money of 3", x.money(3), 0);
        x.proof(0, 0);
        Checks.due("money of 3", x.money(3), 0);
    }

    private static void severalSeasons() {
        SkinLeague x = Checks.league(4);
        x.match(0, 1, 0);
        x.end();
        x.pass(1);
        x.match(0, 1, 0);
        x.match(2, 1, 0);
        x.end();
        x.pass(1);
        x.match(0, 3, 0);
        x.match(1, 0, 0);
        x.sell(0, 3, 10);
        x.proof(0, 1);
        Checks.due("an heir of a season ahead of the proof", x.skinOf(0, 1), 0);
        Checks.due("the holder", x.skinOf(0, 0), 3);
        Checks.due("place 1 of season 1", x.skinOf(2, 1), 2);
        Checks.due("place 2 of season 1", x.skinOf(3, 1), 1);
        Checks.due("place 3 of season 1", x.skinOf(4, 1), -1);
        Checks.due("points in the season that is on", x.ranked(2, 0, 0), 1);
        x.proof(0, 0);
        Checks.due("place 1 of season 0", x.skinOf(0, 1), -1);
        Checks.due("place 2 of season 0", x.skinOf(1, 1), -1);
    }

    private static void wrongInputs() {
        SkinLeague x = Checks.league(2);
        x.match(0, 1, 0);
        x.pass(3);
        Checks.noSuch("proof(2, 0)", () -> x.proof(2, 0));
        Checks.noSuch("proof(-1, 0)", () -> x.proof(-1, 0));
        Checks.noSuch("proof(2, 9)", () -> x.proof(2, 9));
        Checks.noSuch("proof(max, 0)", () -> x.proof(Integer.MAX_VALUE, 0));
        Checks.outOfRange("proof(0, -1)", () -> x.proof(0, -1));
        Checks.outOfRange("proof(0, 4) on day 3", () -> x.proof(0, 4));
        Checks.outOfRange("proof(0, min)", () -> x.proof(0, Integer.MIN_VALUE));
        Checks.due("stands(0)", x.stands(0), true);
        Checks.notNow("clear(0)", () -> x.clear(0));
        Checks.due("proof(0, 3)", x.proof(0, 3), 0);
    }
}
