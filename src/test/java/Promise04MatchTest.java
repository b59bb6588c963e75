/** Promise 4: match. */
public final class Promise04MatchTest {
    public static void main(String[] args) {
        ordinary();
        eachPlayerAndRegion();
        atMostHundred();
        onADayInTheSeasonOfThen();
        bans();
        fullRegion();
        noSuchArguments();
        bothAreTheSame();
        notNow();
        Checks.end("promise 4");
    }

    private static void ordinary() {
        SkinLeague x = Checks.league(2);
        Checks.due("match(1, 0, 3)", x.match(1, 0, 3), 0);
        Checks.due("points of the winner", x.ranked(0, 1, 0), 3);
        Checks.due("points of the loser", x.ranked(0, 0, 0), 1);
        x.proof(0, 0);
        Checks.due("a match won by a proven player", x.match(0, 1, 0), 1);
        Checks.due("stands(1)", x.stands(1), false);
        Checks.due("points of who won it", x.ranked(0, 0, 0), 1);
        Checks.due("matches of who lost it", x.ranked(0, 1, 1), 1);
        Checks.due("a match lost by a proven player", x.match(1, 0, 0), 2);
        Checks.due("stands(2)", x.stands(2), true);
        Checks.due("points of the loser", x.ranked(0, 0, 0), 2);
    }

    private static void eachPlayerAndRegion() {
        SkinLeague x = Checks.league(16);
        for (int i = 0; i < 16; i++) {
            Checks.due("match(" + i + ", " + (15 - i) + ", " + i % 4 + ")", x.match(i, 15 - i, i % 4), i);
        }
        for (int i = 0; i < 16; i++) {
            Checks.due("points of " + i, x.ranked(0, i, 0), 4);
            Checks.due("matches of " + i, x.ranked(0, i, 1), 2);
        }
    }

    private static SkinLeague leagueWithHundred() {
        SkinLeague x = Checks.league(3);
        x.room(0, 50);
        for (int i = 0; i < 100; i++) {
            if (i == 50) {
                x.pass(1);
            }
            Checks.due("match(0, 1, 0)", x.match(0, 1, 0), i);
        }
        x.pass(1);
        return x;
    }

    private static void atMostHundred() {
        SkinLeague x = leagueWithHundred();
        Checks.notNow("match 101", () -> x.match(0, 1, 0));
        Checks.noSuch("stands(100)", () -> x.stands(100));
        Checks.due("stands(99)", x.stands(99), true);
        Checks.due("room(0, 50)", x.room(0, 50), 0);
        Checks.due("points", x.ranked(0, 0, 0), 300);
        Checks.due("matches", x.ranked(0, 1, 1), 100);
        Checks.due("proof(0, 1)", x.proof(0, 1), 50);
        Checks.notNow("match 101 when some do not stand", () -> x.match(1, 0, 0));
        Checks.due("proof(0, 0)", x.proof(0, 0), 100);
        Checks.notNow("match 101 when none stands", () -> x.match(1, 0, 0));
        x.end();
        Checks.notNow("match 101 in the next season", () -> x.match(1, 0, 0));
        Refused.notNow(Promise04MatchTest::leagueWithHundred, "match", 0, 1, 0);
        Refused.notNow(Promise04MatchTest::leagueWithHundred, "match", 2, 1, 3);
        Refused.noSuch(Promise04MatchTest::leagueWithHundred, "match", 0, 1, 4);
        Refused.noSuch(Promise04MatchTest::leagueWithHundred, "match", 3, 1, 0);
        Refused.outOfRange(Promise04MatchTest::leagueWithHundred, "match", 1, 1, 0);
    }

    private static void onADayInTheSeasonOfThen() {
        SkinLeague x = Checks.league(2);
        x.match(0, 1, 0);
        x.pass(1);
        x.match(0, 1, 0);
        x.end();
        Checks.due("a match of the same day in the next season", x.match(0, 1, 0), 2);
        x.pass(1);
        x.match(0, 1, 0);
        Checks.due("points in season 0", x.ranked(0, 0, 0), 6);
        Checks.due("points in season 1", x.ranked(1, 0, 0), 6);
        Checks.due("proof(0, 2)", x.proof(0, 2), 1);
        Checks.due("points in season 1", x.ranked(1, 0, 0), 3);
        Checks.due("proof(0, 1)", x.proof(0, 1), 3);
        Checks.due("points in season 0", x.ranked(0, 0, 0), 3);
        Checks.due("points in season 1", x.ranked(1, 0, 0), 0);
    }

    private static void bans() {
        SkinLeague x = Checks.league(3);
        x.ban(0, 2);
        Checks.notNow("a banned winner", () -> x.match(0, 1, 0));
        Checks.notNow("a banned loser", () -> x.match(1, 0, 0));
        Checks.due("nobody of both is banned", x.match(1, 2, 0), 0);
        Checks.due("room(0, 10)", x.room(0, 10), 1);
        x.pass(1);
        Checks.notNow("a winner on the last day of a ban", () -> x.match(0, 1, 0));
        Checks.notNow("a loser on the last day of a ban", () -> x.match(1, 0, 0));
        x.pass(1);
        Checks.due("a winner whose ban is over", x.match(0, 1, 0), 1);
        Checks.due("a loser whose ban is over", x.match(1, 0, 0), 2);
    }

    private static void fullRegion() {
        SkinLeague x = Checks.league(2);
        for (int i = 0; i < 9; i++) {
            x.match(0, 1, 1);
        }
        Checks.due("the last match that there is room for", x.match(0, 1, 1), 9);
        Checks.notNow("one more", () -> x.match(0, 1, 1));
        Checks.due("one more elsewhere", x.match(0, 1, 2), 10);
        x.pass(1);
        Checks.due("one more on the next day", x.match(0, 1, 1), 11);
    }

    private static void noSuchArguments() {
        int[] noPlayers = {-1, 5, 15, 16, Integer.MIN_VALUE, Integer.MAX_VALUE};
        for (int player : noPlayers) {
            Refused.noSuch("match", player, 0, 0);
            Refused.noSuch("match", 0, player, 0);
            // Ahead of: both are the same, one is banned, the region is full.
            Refused.noSuch("match", player, player, 0);
            Refused.noSuch("match", player, 4, 0);
            Refused.noSuch("match", 4, player, 0);
            Refused.noSuch("match", 0, player, 2);
            Refused.noSuch("match", player, 0, 2);
        }
        int[] noRegions = {-1, 4, Integer.MIN_VALUE, Integer.MAX_VALUE};
        for (int region : noRegions) {
            Refused.noSuch("match", 0, 1, region);
            Refused.noSuch("match", 0, 0, region);
            Refused.noSuch("match", 4, 0, region);
            Refused.noSuch("match", 5, -1, region);
        }
    }

    private static void bothAreTheSame() {
        for (int player = 0; player < 5; player++) {
            Refused.outOfRange("match", player, player, 0);
            // Ahead of: the region is full, and for player 4 who is banned.
            Refused.outOfRange("match", player, player, 2);
        }
    }

    private static void notNow() {
        Refused.notNow("match", 4, 0, 0);
        Refused.notNow("match", 0, 4, 0);
        Refused.notNow("match", 0, 1, 2);
        Refused.notNow("match", 4, 0, 2);
        Refused.notNow(() -> {
            SkinLeague x = Refused.busyLeague();
            x.match(0, 1, 1);
            return x;
        }, "match", 1, 2, 1);
    }
}
