/** Promise 5: end, and the prizes. */
public final class Promise05EndTest {
    public static void main(String[] args) {
        numberOfPrizes();
        heirsByRanking();
        onlyMatchesThatStand();
        theLastSeason();
        Checks.end("promise 5");
    }

    private static void numberOfPrizes() {
        SkinLeague x = Checks.league(5);
        Checks.due("end() without matches", x.end(), 0);
        Checks.noSuch("skinOf(0, 0)", () -> x.skinOf(0, 0));
        x.match(3, 4, 0);
        Checks.due("end() with two players", x.end(), 2);
        Checks.noSuch("skinOf(2, 0)", () -> x.skinOf(2, 0));
        x.match(0, 1, 0);
        x.match(2, 1, 0);
        Checks.due("end() with three players", x.end(), 3);
        x.match(0, 1, 0);
        x.match(2, 3, 0);
        x.match(4, 3, 0);
        Checks.due("end() with five players", x.end(), 3);
        int[] seasons = {1, 1, 2, 2, 2, 3, 3, 3};
        int[] places = {1, 2, 1, 2, 3, 1, 2, 3};
        for (int skin = 0; skin < 8; skin++) {
            Checks.due("season of skin " + skin, x.skinOf(skin, 3), seasons[skin]);
            Checks.due("place of skin " + skin, x.skinOf(skin, 4), places[skin]);
        }
        Checks.noSuch("skinOf(8, 0)", () -> x.skinOf(8, 0));
    }

    private static void heirsByRanking() {
        SkinLeague x = Checks.league(4);
        // 3 has 6 points, 1 has 4 of two matches, 2 has 4 of four, 0 has 3 of one.
        x.match(3, 1, 0);
        x.match(1, 2, 0);
        x.match(3, 2, 0);
        x.match(0, 2, 0);
        x.match(2, 3, 0);
        x.proof(2, 0);
        x.clear(2);
        x.end();
        int[] heirs = {3, 2, 1};
        for (int skin = 0; skin < 3; skin++) {
            Checks.due("holder of skin " + skin, x.skinOf(skin, 0), heirs[skin]);
            Checks.due("heir of skin " + skin, x.skinOf(skin, 1), heirs[skin]);
            Checks.due("user of skin " + skin, x.skinOf(skin, 2), heirs[skin]);
            Checks.due("sales of skin " + skin, x.skinOf(skin, 5), 0);
            Checks.due("goodness of skin " + skin, x.skinOf(skin, 6), 0);
            Checks.due("money of its holder", x.money(heirs[skin]), 0);
        }
    }

    private static void onlyMatchesThatStand() {
        SkinLeague x = Checks.league(3);
        x.match(0, 1, 0);
        x.proof(0, 0);
        Checks.due("end() when no match stands", x.end(), 0);
        Checks.due("clear(0)", x.clear(0), 0);
        Checks.noSuch("no skin is won later", () -> x.skinOf(0, 0));
        x.match(1, 2, 0);
        Checks.due("end()", x.end(), 2);
        Checks.due("the season of the first skin", x.skinOf(0, 3), 1);
    }

    private static void theLastSeason() {
        SkinLeague x = Checks.league(3);
        for (int season = 0; season < 11; season++) {
            x.pass(1);
            x.match(0, 1, 0);
            x.match(0, 2, 0);
            Checks.due("end() of season " + season, x.end(), 3);
            Checks.due("points in the next season", x.ranked(season + 1, 0, 0), 0);
        }
        x.match(0, 1, 0);
        Checks.notNow("end() of season 11", () -> x.end());
        Checks.due("season 11 is still on", x.ranked(11, 0, 0), 3);
        x.match(0, 1, 0);
        Checks.due("points in season 11", x.ranked(11, 0, 0), 6);
        Checks.due("skinOf(32, 3)", x.skinOf(32, 3), 10);
        Checks.noSuch("skinOf(33, 3)", () -> x.skinOf(33, 3));
        Checks.noSuch("ranked(12, 0, 0)", () -> x.ranked(12, 0, 0));
    }
}
