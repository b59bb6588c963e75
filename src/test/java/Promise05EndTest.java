/** Promise 5: end, and the prizes. */
public final class Promise05EndTest {
    public static void main(String[] args) {
        numberOfPrizes();
        heirsByRanking();
        equalPoints();
        onlyMatchesThatStand();
        skinsAreNumberedAsTheyAreWon();
        theLastSeason();
        oneMoreChangesNothing();
        Checks.end("promise 5");
    }

    private static void numberOfPrizes() {
        SkinLeague x = Checks.league(5);
        Checks.due("end() without matches", x.end(), 0);
        Checks.noSuch("skinOf(0, 0)", () -> x.skinOf(0, 0));
        x.match(3, 4, 0);
        Checks.due("end() with two players", x.end(), 2);
        Checks.noSuch("skinOf(2, 0)", () -> x.skinOf(2, 0));
        x.match(0, 1, 0);
        x.match(2, 1, 0);
        Checks.due("end() with three players", x.end(), 3);
        x.match(0, 1, 0);
        x.match(2, 3, 0);
        Checks.due("end() with four players", x.end(), 3);
        x.match(0, 1, 0);
        x.match(2, 3, 0);
        x.match(4, 3, 0);
        Checks.due("end() with five players", x.end(), 3);
        int[] seasons = {1, 1, 2, 2, 2, 3, 3, 3, 4, 4, 4};
        int[] places = {1, 2, 1, 2, 3, 1, 2, 3, 1, 2, 3};
        int[] heirs = {3, 4, 0, 2, 1, 0, 2, 1, 0, 2, 4};
        for (int skin = 0; skin < 11; skin++) {
            Checks.due("season of skin " + skin, x.skinOf(skin, 3), seasons[skin]);
            Checks.due("place of skin " + skin, x.skinOf(skin, 4), places[skin]);
            Checks.due("heir of skin " + skin, x.skinOf(skin, 1), heirs[skin]);
        }
        Checks.noSuch("skinOf(11, 0)", () -> x.skinOf(11, 0));
    }

    private static void heirsByRanking() {
        SkinLeague x = Checks.league(4);
        // 3 has 7 points, 2 has 6, 1 has 4, 0 has 3.
        x.match(3, 1, 0);
        x.match(1, 2, 0);
        x.match(3, 2, 0);
        x.match(0, 2, 0);
        x.match(2, 3, 0);
        x.proof(2, 0);
        x.clear(2);
        x.end();
        int[] heirs = {3, 2, 1};
        for (int skin = 0; skin < 3; skin++) {
            Checks.due("holder of skin " + skin, x.skinOf(skin, 0), heirs[skin]);
            Checks.due("heir of skin " + skin, x.skinOf(skin, 1), heirs[skin]);
            Checks.due("user of skin " + skin, x.skinOf(skin, 2), heirs[skin]);
            Checks.due("sales of skin " + skin, x.skinOf(skin, 5), 0);
            Checks.due("goodness of skin " + skin, x.skinOf(skin, 6), 0);
            Checks.due("money of its holder", x.money(heirs[skin]), 0);
        }
    }

    private static void equalPoints() {
        SkinLeague x = Checks.league(7);
        // 6 and 5 win once, 0 loses three times: all have 3 points.
        x.match(6, 0, 0);
        x.match(5, 0, 0);
        x.match(4, 0, 0);
        x.match(4, 3, 0);
        Checks.due("end()", x.end(), 3);
        Checks.due("more points go first", x.skinOf(0, 1), 4);
        Checks.due("then fewer matches and the lower number", x.skinOf(1, 1), 5);
        Checks.due("then the higher number, ahead of more matches", x.skinOf(2, 1), 6);
    }

    private static void onlyMatchesThatStand() {
        SkinLeague x = Checks.league(3);
        x.match(0, 1, 0);
        x.proof(0, 0);
        Checks.due("end() when no match stands", x.end(), 0);
        Checks.due("clear(0)", x.clear(0), 0);
        Checks.due("a place", x.ranked(0, 0, 2), 1);
        Checks.noSuch("without a skin stays without one", () -> x.skinOf(0, 0));
        x.match(1, 2, 0);
        Checks.due("end()", x.end(), 2);
        Checks.due("the season of the first skin", x.skinOf(0, 3), 1);
    }

    private static void skinsAreNumberedAsTheyAreWon() {
        SkinLeague x = Checks.league(3);
        x.match(0, 1, 0);
        x.match(2, 1, 0);
        x.proof(2, 0);
        Checks.due("end() without the matches of 2", x.end(), 2);
        x.match(1, 0, 0);
        Checks.due("end() of season 1", x.end(), 2);
        x.clear(2);
        Checks.due("ranked(0, 1, 2)", x.ranked(0, 1, 2), 3);
        Checks.due("place 3 of season 0 has no skin", x.skinOf(2, 3), 1);
        Checks.due("place 2 of season 0", x.skinOf(1, 1), 2);
        Checks.noSuch("skinOf(4, 0)", () -> x.skinOf(4, 0));
    }

    private static SkinLeague leagueInTheLastSeason() {
        SkinLeague x = Checks.league(3);
        for (int season = 0; season < 11; season++) {
            x.pass(1);
            x.match(0, 1, 0);
            x.match(0, 2, 0);
            Checks.due("end() of season " + season, x.end(), 3);
        }
        return x;
    }

    private static void theLastSeason() {
        SkinLeague x = leagueInTheLastSeason();
        Checks.due("points in the season that is on", x.ranked(11, 0, 0), 0);
        Checks.due("points in the season ahead of it", x.ranked(10, 0, 0), 6);
        x.match(0, 1, 0);
        Checks.notNow("end() of season 11", () -> x.end());
        Checks.due("season 11 is still on", x.ranked(11, 0, 0), 3);
        x.match(0, 1, 0);
        Checks.due("points in season 11", x.ranked(11, 0, 0), 6);
        Checks.notNow("end() of season 11, again", () -> x.end());
        Checks.due("skinOf(32, 3)", x.skinOf(32, 3), 10);
        Checks.due("skinOf(32, 1)", x.skinOf(32, 1), 2);
        Checks.noSuch("skinOf(33, 3)", () -> x.skinOf(33, 3));
        Checks.noSuch("ranked(12, 0, 0)", () -> x.ranked(12, 0, 0));
        x.proof(0, 11);
        Checks.due("heir of season 10", x.skinOf(30, 1), SkinLeague.NONE);
        Checks.due("heir of season 9", x.skinOf(27, 1), 0);
    }

    private static void oneMoreChangesNothing() {
        Refused.notNow(() -> {
            SkinLeague x = Refused.busyLeague();
            for (int season = 2; season < 11; season++) {
                x.end();
            }
            return x;
        }, "end");
        SkinLeague x = leagueInTheLastSeason();
        Checks.notNow("end()", () -> x.end());
        Checks.due("the day", x.pass(1), 12);
        Checks.due("the holder of the last skin", x.skinOf(32, 0), 2);
        Checks.due("a sale", x.sell(32, 0, 5), true);
        Checks.due("room(0, 1)", x.room(0, 1), 0);
        Checks.due("the next match", x.match(1, 2, 0), 22);
        Checks.due("is of the last season", x.ranked(11, 1, 0), 3);
    }
}
