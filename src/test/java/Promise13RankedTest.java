/** Promise 13: ranked. */
public final class Promise13RankedTest {
    public static void main(String[] args) {
        pointsAndMatches();
        withoutPoints();
        order();
        allSixteen();
        whatAProofChanges();
        eachSeason();
        noSuchSeasonOrPlayer();
        whatOutOfRange();
        Checks.end("promise 13");
    }

    private static void row(SkinLeague x, int season, int what, int... want) {
        for (int player = 0; player < want.length; player++) {
            Checks.due("ranked(" + season + ", " + player + ", " + what + ")",
                    x.ranked(season, player, what), want[player]);
        }
    }

    private static void pointsAndMatches() {
        SkinLeague x = Checks.league(4);
        x.match(2, 0, 0);
        x.match(2, 1, 1);
        x.match(0, 2, 2);
        row(x, 0, 0, 4, 1, 7, 0);
        row(x, 0, 1, 2, 1, 3, 0);
        row(x, 0, 2, 2, 3, 1, 0);
        x.end();
        row(x, 0, 0, 4, 1, 7, 0);
        row(x, 1, 0, 0, 0, 0, 0);
        row(x, 1, 2, 0, 0, 0, 0);
        x.match(3, 2, 0);
        row(x, 0, 2, 2, 3, 1, 0);
        row(x, 1, 0, 0, 0, 1, 3);
        row(x, 1, 2, 0, 0, 2, 1);
    }

    private static void withoutPoints() {
        SkinLeague x = Checks.league(3);
        row(x, 0, 0, 0, 0, 0);
        row(x, 0, 1, 0, 0, 0);
        row(x, 0, 2, 0, 0, 0);
        x.match(1, 2, 0);
        row(x, 0, 0, 0, 3, 1);
        row(x, 0, 1, 0, 1, 1);
        row(x, 0, 2, 0, 1, 2);
        x.proof(1, 0);
        row(x, 0, 0, 0, 0, 0);
        row(x, 0, 1, 0, 0, 0);
        row(x, 0, 2, 0, 0, 0);
    }

    private static void order() {
        SkinLeague x = Checks.league(6);
        // 5 wins once; 0 loses three times: both have 3 points, 5 of fewer matches.
        x.match(5, 0, 0);
        x.match(4, 0, 0);
        x.match(3, 0, 0);
        row(x, 0, 0, 3, 0, 0, 3, 3, 3);
        row(x, 0, 2, 4, 0, 0, 1, 2, 3);
        x.match(2, 5, 0);
        row(x, 0, 0, 3, 0, 3, 3, 3, 4);
        row(x, 0, 2, 5, 0, 2, 3, 4, 1);
        x.end();
        Checks.due("heir of place 1", x.skinOf(0, 1), 5);
        Checks.due("heir of place 2", x.skinOf(1, 1), 2);
        Checks.due("heir of place 3", x.skinOf(2, 1), 3);
    }

    private static void allSixteen() {
        SkinLeague x = Checks.league(16);
        for (int i = 0; i < 8; i++) {
            x.match(15 - i, i, i % 4);
        }
        for (int i = 0; i < 8; i++) {
            Checks.due("place of who lost, " + i, x.ranked(0, i, 2), 9 + i);
            Checks.due("place of who won, " + (8 + i), x.ranked(0, 8 + i, 2), 1 + i);
        }
        x.match(0, 15, 0);
        Checks.due("points of 15", x.ranked(0, 15, 0), 4);
        Checks.due("equal points and matches: the lower number", x.ranked(0, 0, 2), 1);
        Checks.due("equal points and matches: the higher number", x.ranked(0, 15, 2), 2);
    }

    private static void whatAProofChanges() {
        SkinLeague x = Checks.league(3);
        x.match(0, 1, 0);
        x.match(2, 1, 0);
        x.match(1, 2, 0);
        row(x, 0, 2, 3, 1, 2);
        x.proof(1, 0);
        row(x, 0, 0, 3, 1 + 1, 3);
        row(x, 0, 1, 1, 2, 1);
        row(x, 0, 2, 1, 3, 2);
        x.proof(0, 0);
        row(x, 0, 0, 0, 1, 3);
        row(x, 0, 1, 0, 1, 1);
        row(x, 0, 2, 0, 2, 1);
        x.clear(1);
        row(x, 0, 0, 0, 4, 4);
        row(x, 0, 2, 0, 1, 2);
    }

    private static void eachSeason() {
        SkinLeague x = Checks.league(2);
        for (int season = 0; season < 12; season++) {
            int next = season + 1;
            for (int i = 0; i <= season % 4; i++) {
                x.match(0, 1, i);
            }
            Checks.due("points in season " + season, x.ranked(season, 0, 0), 3 * (1 + season % 4));
            Checks.noSuch("ranked of the next season", () -> x.ranked(next, 0, 0));
            if (season < 11) {
                x.end();
            }
            x.pass(1);
        }
        for (int season = 0; season < 12; season++) {
            Checks.due("points in season " + season, x.ranked(season, 0, 0), 3 * (1 + season % 4));
            Checks.due("matches in season " + season, x.ranked(season, 1, 1), 1 + season % 4);
        }
        Checks.noSuch("ranked(12, 0, 0)", () -> x.ranked(12, 0, 0));
    }

    private static void noSuchSeasonOrPlayer() {
        int[] noSeasons = {-1, 3, 11, 12, Integer.MIN_VALUE, Integer.MAX_VALUE};
        for (int season : noSeasons) {
            Refused.noSuch("ranked", season, 0, 0);
            Refused.noSuch("ranked", season, 5, 0);
            Refused.noSuch("ranked", season, 0, -1);
            Refused.noSuch("ranked", season, 0, 3);
        }
        int[] noPlayers = {-1, 5, 15, 16, Integer.MIN_VALUE, Integer.MAX_VALUE};
        for (int player : noPlayers) {
            Refused.noSuch("ranked", 0, player, 2);
            Refused.noSuch("ranked", 2, player, 0);
            Refused.noSuch("ranked", 0, player, -1);
            Refused.noSuch("ranked", 0, player, 3);
        }
    }

    private static void whatOutOfRange() {
        int[] noWhats = {-1, 3, Integer.MIN_VALUE, Integer.MAX_VALUE};
        for (int what : noWhats) {
            Refused.outOfRange("ranked", 0, 0, what);
            Refused.outOfRange("ranked", 2, 4, what);
        }
    }
}
