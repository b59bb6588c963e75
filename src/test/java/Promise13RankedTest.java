/** Promise 13: ranked. */
public final class Promise13RankedTest {
    public static void main(String[] args) {
        pointsAndMatches();
        order();
        whatAProofChanges();
        wrongInputs();
        Checks.end("promise 13");
    }

    private static void row(SkinLeague x, int season, int what, int... want) {
        for (int player = 0; player < want.length; player++) {
            Checks.due("ranked(" + season + ", " + player + ", " + what + ")",
                    x.ranked(season, player, what), want[player]);
        }
    }

    private static void pointsAndMatches() {
        SkinLeague x = Checks.league(4);
        x.match(2, 0, 0);
        x.match(2, 1, 1);
        x.match(0, 2, 2);
        row(x, 0, 0, 4, 1, 7, 0);
        row(x, 0, 1, 2, 1, 3, 0);
        row(x, 0, 2, 2, 3, 1, 0);
        x.end();
        row(x, 0, 0, 4, 1, 7, 0);
        row(x, 1, 0, 0, 0, 0, 0);
        row(x, 1, 2, 0, 0, 0, 0);
        x.match(3, 2, 0);
        row(x, 0, 2, 2, 3, 1, 0);
        row(x, 1, 0, 0, 0, 1, 3);
        row(x, 1, 2, 0, 0, 2, 1);
    }

    private static void order() {
        SkinLeague x = Checks.league(6);
        // 5 wins once; 0 loses three times: both have 3 points, 5 of fewer matches.
        x.match(5, 0, 0);
        x.match(4, 0, 0);
        x.match(3, 0, 0);
        row(x, 0, 0, 3, 0, 0, 3, 3, 3);
        row(x, 0, 2, 4, 0, 0, 1, 2, 3);
        x.match(2, 5, 0);
        row(x, 0, 0, 3, 0, 3, 3, 3, 4);
        row(x, 0, 2, 5, 0, 2, 3, 4, 1);
        x.end();
        Checks.due("heir of place 1", x.skinOf(0, 1), 5);
        Checks.due("heir of place 2", x.skinOf(1, 1), 2);
        Checks.due("heir of place 3", x.skinOf(2, 1), 3);
    }

    private static void whatAProofChanges() {
        SkinLeague x = Checks.league(3);
        x.match(0, 1, 0);
        x.match(2, 1, 0);
        x.match(1, 2, 0);
        row(x, 0, 2, 3, 1, 2);
        x.proof(1, 0);
        row(x, 0, 0, 3, 1 + 1, 3);
        row(x, 0, 1, 1, 2, 1);
        row(x, 0, 2, 1, 3, 2);
        x.proof(0, 0);
        row(x, 0, 0, 0, 1, 3);
        row(x, 0, 1, 0, 1, 1);
        row(x, 0, 2, 0, 2, 1);
        x.clear(1);
        row(x, 0, 0, 0, 4, 4);
        row(x, 0, 2, 0, 1, 2);
    }

    private static void wrongInputs() {
        SkinLeague x = Checks.league(2);
        Checks.noSuch("ranked(1, 0, 0)", () -> x.ranked(1, 0, 0));
        Checks.noSuch("ranked(-1, 0, 0)", () -> x.ranked(-1, 0, 0));
        Checks.noSuch("ranked(0, 2, 0)", () -> x.ranked(0, 2, 0));
        Checks.noSuch("ranked(0, -1, 0)", () -> x.ranked(0, -1, 0));
        Checks.noSuch("ranked(1, 0, 9)", () -> x.ranked(1, 0, 9));
        Checks.noSuch("ranked(0, 2, 9)", () -> x.ranked(0, 2, 9));
        Checks.noSuch("ranked(12, 0, 0)", () -> x.ranked(12, 0, 0));
        Checks.noSuch("ranked(max, min, 0)", () -> x.ranked(Integer.MAX_VALUE, Integer.MIN_VALUE, 0));
        Checks.outOfRange("ranked(0, 0, 3)", () -> x.ranked(0, 0, 3));
        Checks.outOfRange("ranked(0, 0, -1)", () -> x.ranked(0, 0, -1));
        x.end();
        Checks.due("ranked(1, 0, 0)", x.ranked(1, 0, 0), 0);
        Checks.noSuch("ranked(2, 0, 0)", () -> x.ranked(2, 0, 0));
    }
}
