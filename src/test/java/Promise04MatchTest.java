/** Promise 4: match. */
public final class Promise04MatchTest {
    public static void main(String[] args) {
        ordinary();
        atMostHundred();
        bans();
        wrongInputs();
        Checks.end("promise 4");
    }

    private static void ordinary() {
        SkinLeague x = Checks.league(2);
        Checks.due("match(1, 0, 3)", x.match(1, 0, 3), 0);
        Checks.due("points of the winner", x.ranked(0, 1, 0), 3);
        Checks.due("points of the loser", x.ranked(0, 0, 0), 1);
        x.end();
        Checks.due("match(0, 1, 3)", x.match(0, 1, 3), 1);
        Checks.due("points in season 1", x.ranked(1, 0, 0), 3);
        Checks.due("points in season 0", x.ranked(0, 0, 0), 1);
        x.proof(0, 0);
        Checks.due("a match won by a proven player", x.match(0, 1, 0), 2);
        Checks.due("stands(2)", x.stands(2), false);
        Checks.due("a match lost by a proven player", x.match(1, 0, 0), 3);
        Checks.due("stands(3)", x.stands(3), true);
        Checks.due("points of the loser", x.ranked(1, 0, 0), 1);
    }

    private static void atMostHundred() {
        SkinLeague x = Checks.league(2);
        x.room(0, 50);
        for (int i = 0; i < 100; i++) {
            if (i == 50) {
                x.pass(1);
            }
            Checks.due("match(0, 1, 0)", x.match(0, 1, 0), i);
        }
        x.pass(1);
        Checks.notNow("match 101", () -> x.match(0, 1, 0));
        Checks.due("room(0, 50)", x.room(0, 50), 0);
        Checks.due("points", x.ranked(0, 0, 0), 300);
        Checks.due("matches", x.ranked(0, 1, 1), 100);
        Checks.due("proof(0, 1)", x.proof(0, 1), 50);
        Checks.notNow("match 101 when some do not stand", () -> x.match(1, 0, 0));
    }

    private static void bans() {
        SkinLeague x = Checks.league(3);
        x.ban(0, 1);
        Checks.notNow("a banned winner", () -> x.match(0, 1, 0));
        Checks.notNow("a banned loser", () -> x.match(1, 0, 0));
        Checks.due("nobody of both is banned", x.match(1, 2, 0), 0);
        Checks.due("room(0, 10)", x.room(0, 10), 1);
        x.pass(1);
        Checks.due("the ban is over", x.match(0, 1, 0), 1);
    }

    private static void wrongInputs() {
        SkinLeague x = Checks.league(2);
        x.ban(0, 9);
        x.room(0, 0);
        Checks.noSuch("match(2, 0, 0)", () -> x.match(2, 0, 0));
        Checks.noSuch("match(0, 2, 0)", () -> x.match(0, 2, 0));
        Checks.noSuch("match(-1, 0, 0)", () -> x.match(-1, 0, 0));
        Checks.noSuch("match(0, -1, 0)", () -> x.match(0, -1, 0));
        Checks.noSuch("match(0, 1, 4)", () -> x.match(0, 1, 4));
        Checks.noSuch("match(0, 1, -1)", () -> x.match(0, 1, -1));
        Checks.noSuch("match(0, 0, 4)", () -> x.match(0, 0, 4));
        Checks.noSuch("match(2, 2, 0)", () -> x.match(2, 2, 0));
        Checks.noSuch("match(max, min, max)",
                () -> x.match(Integer.MAX_VALUE, Integer.MIN_VALUE, Integer.MAX_VALUE));
        Checks.outOfRange("match(0, 0, 0)", () -> x.match(0, 0, 0));
        Checks.notNow("match(1, 0, 0) in no room", () -> x.match(1, 0, 0));
        Checks.noSuch("stands(0)", () -> x.stands(0));
        Checks.due("points", x.ranked(0, 1, 0), 0);
    }
}
