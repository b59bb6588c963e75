/** Promise 8: proof, and what it undoes. */
public final class Promise08ProofTest {
    public static void main(String[] args) {
        matchesThatDoNotStand();
        leastAndGreatestDay();
        theEarliestDayCounts();
        noneAndAsManyAsThereMayBe();
        skinsThatAreNotGood();
        noSaleAndTwentySalesAreUndone();
        skinsThatAreGood();
        nobodyIsAnHeir();
        theFirstSaleInFaithCounts();
        nothingIsUndoneTwice();
        severalSeasons();
        placesWithoutASkin();
        heirsByEqualPoints();
        whatAProofLeaves();
        wrongInputs();
        Checks.end("promise 8");
    }

    private static void matchesThatDoNotStand() {
        SkinLeague x = Checks.league(3);
        x.match(0, 1, 0);
        x.pass(2);
        x.match(0, 1, 0);
        x.match(1, 0, 0);
        x.pass(2);
        x.match(0, 2, 0);
        Checks.due("proof(2, 0)", x.proof(2, 0), 0);
        Checks.due("proof(0, 4)", x.proof(0, 4), 1);
        Checks.due("proof(0, 3)", x.proof(0, 3), 1);
        Checks.due("proof(0, 2)", x.proof(0, 2), 2);
        Checks.due("proof(1, 0) counts those of all", x.proof(1, 0), 3);
        Checks.due("proof(0, 0)", x.proof(0, 0), 4);
        Checks.due("points", x.ranked(0, 1, 0), 0);
    }

    private static void leastAndGreatestDay() {
        SkinLeague x = Checks.league(3);
        Checks.due("proof(2, 0) on day 0", x.proof(2, 0), 0);
        Checks.outOfRange("proof(1, 1) on day 0", () -> x.proof(1, 1));
        Checks.outOfRange("proof(1, -1) on day 0", () -> x.proof(1, -1));
        Checks.notNow("clear(1)", () -> x.clear(1));
        x.match(0, 1, 0);
        x.pass(400);
        x.match(0, 1, 0);
        Checks.outOfRange("proof(0, 401) on day 400", () -> x.proof(0, 401));
        Checks.due("proof(0, 400)", x.proof(0, 400), 1);
        Checks.due("stands(0)", x.stands(0), true);
        Checks.due("stands(1)", x.stands(1), false);
        Checks.due("proof(0, 0)", x.proof(0, 0), 2);
        Checks.due("clear(0)", x.clear(0), 0);
    }

    private static void theEarliestDayCounts() {
        SkinLeague x = Checks.league(2);
        x.match(0, 1, 0);
        x.pass(3);
        x.match(0, 1, 0);
        Checks.due("proof(0, 1)", x.proof(0, 1), 1);
        Checks.due("proof(0, 3)", x.proof(0, 3), 1);
        x.pass(1);
        Checks.due("proof(0, 4)", x.proof(0, 4), 1);
        Checks.due("proof(0, 1) again", x.proof(0, 1), 1);
        Checks.due("stands(1)", x.stands(1), false);
        Checks.due("clear(0)", x.clear(0), 1);
        Checks.due("proof(0, 4) after it was cleared", x.proof(0, 4), 0);
        Checks.due("proof(0, 3)", x.proof(0, 3), 1);
        Checks.due("clear(0)", x.clear(0), 3);
    }

    private static void noneAndAsManyAsThereMayBe() {
        SkinLeague x = Checks.league(2);
        Checks.due("proof(1, 0) without a match", x.proof(1, 0), 0);
        x.room(0, 50);
        x.room(1, 50);
        for (int i = 0; i < 100; i++) {
            x.match(i % 2, 1 - i % 2, i / 50);
        }
        Checks.due("proof(1, 0) of who won half of 100", x.proof(1, 0), 50);
        Checks.due("proof(0, 0) of who won the others", x.proof(0, 0), 100);
        x.clear(1);
        Checks.due("proof(0, 0) again", x.proof(0, 0), 50);
    }

    private static void skinsThatAreNotGood() {
        SkinLeague x = Checks.leagueWithSkins();
        x.player();
        x.proof(3, 0);
        Checks.due("sell(0, 3, 100)", x.sell(0, 3, 100), false);
        Checks.due("sell(1, 3, 40)", x.sell(1, 3, 40), false);
        Checks.due("sell(2, 3, 7)", x.sell(2, 3, 7), false);
        x.clear(3);
        Checks.due("sell(0, 2, 250)", x.sell(0, 2, 250), true);
        Checks.due("sell(1, 0, 50)", x.sell(1, 0, 50), true);
        x.lend(2, 1, 30);
        Checks.due("money of 0", x.money(0), 50);
        Checks.due("money of 2", x.money(2), -243);
        Checks.due("money of 3", x.money(3), 153);
        Checks.due("proof(0, 0)", x.proof(0, 0), 2);
        Checks.due("the holder of a good skin", x.skinOf(0, 0), 2);
        Checks.due("its heir", x.skinOf(0, 1), 1);
        Checks.due("the heir of a good skin", x.skinOf(1, 1), 2);
        Checks.due("its holder", x.skinOf(1, 0), 0);
        Checks.due("the holder of a skin that is not good", x.skinOf(2, 0), -1);
        Checks.due("its heir", x.skinOf(2, 1), -1);
        Checks.due("its user", x.skinOf(2, 2), -1);
        Checks.due("its sales", x.skinOf(2, 5), 0);
        // 0 pays 250, the first price in faith, to 1; 1 pays 50 to 2; 2 pays 7 back to 3.
        Checks.due("money of 0", x.money(0), 50 - 250);
        Checks.due("money of 1", x.money(1), 40 + 250 - 50);
        Checks.due("money of 2", x.money(2), -243 + 50 - 7);
        Checks.due("money of 3", x.money(3), 153 + 7);
    }

    private static void noSaleAndTwentySalesAreUndone() {
        SkinLeague x = Checks.leagueWithSkins();
        x.player();
        x.player();
        x.proof(3, 0);
        x.proof(4, 0);
        for (int i = 0; i < 20; i++) {
            x.sell(1, i % 2 == 0 ? 3 : 4, 10000 - i);
        }
        Checks.due("money of 1", x.money(1), 10000);
        Checks.due("the holder ahead of the proof", x.skinOf(1, 0), 4);
        x.proof(0, 0);
        for (int player = 0; player < 5; player++) {
            Checks.due("money of " + player, x.money(player), 0);
        }
        Checks.due("the holder after twenty sales are undone", x.skinOf(1, 0), 2);
        Checks.due("the sales", x.skinOf(1, 5), 0);
        Checks.due("the holder after no sale is undone", x.skinOf(0, 0), 1);
        Checks.due("the sales", x.skinOf(0, 5), 0);
    }

    private static void skinsThatAreGood() {
        SkinLeague x = Checks.leagueWithSkins();
        x.sell(0, 2, 30);
        x.sell(0, 1, 70);
        x.sell(0, 0, 90);
        x.sell(0, 2, 5);
        int[] money = {x.money(0), x.money(1), x.money(2)};
        x.proof(0, 0);
        Checks.due("the sales", x.skinOf(0, 5), 4);
        Checks.due("the holder", x.skinOf(0, 0), 2);
        Checks.due("it is good", x.skinOf(0, 6), 1);
        Checks.due("money of 0", x.money(0), money[0] - 30);
        Checks.due("money of 1", x.money(1), money[1] + 30);
        Checks.due("money of 2", x.money(2), money[2]);
        x.proof(0, 0);
        Checks.due("an heir that stays pays nothing", x.money(0), money[0] - 30);
        x.clear(0);
        Checks.due("it is paid back", x.money(0), money[0]);
        Checks.due("it is paid back", x.money(1), money[1]);
    }

    private static void nobodyIsAnHeir() {
        SkinLeague x = Checks.leagueWithSkins();
        x.sell(0, 2, 30);
        x.proof(0, 0);
        Checks.due("money of 1", x.money(1), 30);
        x.proof(1, 0);
        Checks.due("the heir of a good skin", x.skinOf(0, 1), -1);
        Checks.due("its holder", x.skinOf(0, 0), 2);
        Checks.due("nobody is paid", x.money(1), 30);
        x.sell(0, 0, 4);
        Checks.due("it may be sold without an heir", x.skinOf(0, 0), 0);
        x.clear(0);
        Checks.due("the heir", x.skinOf(0, 1), 0);
        Checks.due("nobody pays", x.money(0), 30 - 30 - 4);
        Checks.due("the holder of skin 1", x.skinOf(1, 0), 1);
        Checks.due("money of 1", x.money(1), 30);
        x.clear(1);
        Checks.due("the heir", x.skinOf(0, 1), 0);
        Checks.due("the holder of skin 1", x.skinOf(1, 0), 1);
    }

    private static void theFirstSaleInFaithCounts() {
        SkinLeague x = Checks.leagueWithSkins();
        x.player();
        x.proof(3, 0);
        x.sell(0, 3, 1000);
        x.sell(0, 1, 200);
        x.sell(0, 2, 30);
        x.proof(0, 0);
        Checks.due("the first sale in faith counts, not the first", x.money(0), 1000 - 30);
        Checks.due("money of 1", x.money(1), -200 + 30 + 30);
        Checks.due("money of 2", x.money(2), -30);
        Checks.due("money of 3", x.money(3), -1000 + 200);
    }

    private static void nothingIsUndoneTwice() {
        SkinLeague x = Checks.leagueWithSkins();
        x.player();
        x.proof(3, 0);
        x.sell(0, 3, 100);
        x.sell(0, 2, 60);
        x.proof(0, 0);
        Checks.due("money of 0", x.money(0), 0);
        x.sell(0, 3, 5);
        Checks.due("the sales", x.skinOf(0, 5), 1);
        x.clear(0);
        for (int player = 0; player < 4; player++) {
            Checks.due("money of " + player, x.money(player), 0);
        }
        x.proof(0, 0);
        Checks.due("money of 3", x.money(3), 0);
    }

    private static void severalSeasons() {
        SkinLeague x = Checks.league(4);
        x.match(0, 1, 0);
        x.end();
        x.pass(1);
        x.match(0, 1, 0);
        x.match(2, 1, 0);
        x.end();
        x.pass(1);
        x.match(0, 3, 0);
        x.match(1, 0, 0);
        x.sell(0, 3, 10);
        x.proof(0, 1);
        Checks.due("an heir of a season ahead of the proof", x.skinOf(0, 1), 0);
        Checks.due("the holder", x.skinOf(0, 0), 3);
        Checks.due("place 1 of season 1", x.skinOf(2, 1), 2);
        Checks.due("place 2 of season 1", x.skinOf(3, 1), 1);
        Checks.due("place 3 of season 1", x.skinOf(4, 1), -1);
        Checks.due("points in the season that is on", x.ranked(2, 0, 0), 1);
        x.proof(0, 0);
        Checks.due("place 1 of season 0", x.skinOf(0, 1), -1);
        Checks.due("place 2 of season 0", x.skinOf(1, 1), -1);
        Checks.noSuch("the season that is on has no skin", () -> x.skinOf(5, 0));
    }

    private static void placesWithoutASkin() {
        SkinLeague x = Checks.league(3);
        x.match(0, 1, 0);
        x.match(2, 1, 0);
        x.proof(2, 0);
        x.end();
        x.clear(2);
        x.proof(0, 0);
        Checks.due("place 1", x.skinOf(0, 1), 2);
        Checks.due("place 2", x.skinOf(1, 1), 1);
        Checks.noSuch("place 3", () -> x.skinOf(2, 1));
        x.proof(2, 0);
        Checks.due("place 1 without a match that stands", x.skinOf(0, 1), -1);
        Checks.noSuch("place 3", () -> x.skinOf(2, 1));
    }

    private static void heirsByEqualPoints() {
        SkinLeague x = Checks.league(6);
        // With all matches 4 is the first; without those that 4 won 0, 2, 3 and 5 have 3 points each.
        x.match(4, 1, 0);
        x.match(4, 1, 0);
        x.match(5, 0, 0);
        x.match(3, 0, 0);
        x.match(2, 0, 0);
        x.end();
        x.proof(4, 0);
        Checks.due("place 1", x.skinOf(0, 1), 2);
        Checks.due("place 2", x.skinOf(1, 1), 3);
        Checks.due("place 3", x.skinOf(2, 1), 5);
        Checks.due("place of who has more matches", x.ranked(0, 0, 2), 4);
    }

    private static void whatAProofLeaves() {
        SkinLeague x = Checks.leagueWithSkins();
        x.ban(1, 2);
        x.room(0, 4);
        x.proof(1, 0);
        Checks.due("the day", x.ban(2, 0), 0);
        Checks.notNow("a ban", () -> x.match(1, 0, 1));
        Checks.due("the matches of today", x.room(0, 4), 3);
        Checks.due("who lost what stands has points", x.ranked(0, 2, 0), 1);
        Checks.due("the season that is on", x.end(), 0);
        Checks.due("a skin whose heir stays", x.skinOf(0, 0), 0);
        Checks.due("the holder of place 2", x.skinOf(1, 0), 1);
        Checks.due("the holder of place 3", x.skinOf(2, 0), 2);
    }

    private static void wrongInputs() {
        int[] noPlayers = {-1, 5, 15, 16, Integer.MIN_VALUE, Integer.MAX_VALUE};
        int[] noDays = {-1, 3, Integer.MIN_VALUE, Integer.MAX_VALUE};
        for (int player : noPlayers) {
            Refused.noSuch("proof", player, 0);
            Refused.noSuch("proof", player, 2);
            for (int since : noDays) {
                Refused.noSuch("proof", player, since);
            }
        }
        for (int since : noDays) {
            Refused.outOfRange("proof", 0, since);
            Refused.outOfRange("proof", 3, since);
            Refused.outOfRange("proof", 4, since);
        }
    }
}
