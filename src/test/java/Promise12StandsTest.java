/** Promise 12: stands. */
public final class Promise12StandsTest {
    public static void main(String[] args) {
        sinceTheDayOrAnEarlierOne();
        theWinnerAloneCounts();
        provenAheadOfTheMatch();
        noSuchMatch();
        asManyAsThereMayBe();
        Checks.end("promise 12");
    }

    private static void sinceTheDayOrAnEarlierOne() {
        SkinLeague x = Checks.league(3);
        x.match(0, 1, 0);
        x.pass(5);
        x.match(0, 1, 0);
        x.end();
        x.match(1, 0, 0);
        x.pass(1);
        x.match(0, 2, 0);
        shouldStand(x, "without a proof", true, true, true, true);
        x.proof(0, 6);
        shouldStand(x, "since the day of the match", true, true, true, false);
        x.proof(0, 5);
        shouldStand(x, "since the day of another match", true, false, true, false);
        x.clear(0);
        shouldStand(x, "cleared", true, true, true, true);
        x.proof(0, 4);
        shouldStand(x, "since the day ahead of it", true, false, true, false);
        x.proof(0, 1);
        shouldStand(x, "since the day after the first match", true, false, true, false);
        x.proof(0, 0);
        shouldStand(x, "since day 0", false, false, true, false);
        x.clear(0);
        x.pass(1);
        x.proof(0, 7);
        shouldStand(x, "since the day after the last match", true, true, true, true);
    }

    private static void theWinnerAloneCounts() {
        SkinLeague x = Checks.league(3);
        x.match(0, 1, 0);
        x.match(1, 0, 0);
        x.proof(1, 0);
        shouldStand(x, "a loser who cheated", true, false);
        x.proof(2, 0);
        shouldStand(x, "another one who cheated", true, false);
        x.proof(0, 0);
        shouldStand(x, "both cheated", false, false);
    }

    private static void provenAheadOfTheMatch() {
        SkinLeague x = Checks.league(2);
        x.pass(3);
        x.proof(0, 3);
        x.match(0, 1, 0);
        shouldStand(x, "told on the day of the proof", false);
        x.pass(100);
        x.match(0, 1, 0);
        shouldStand(x, "told long after the proof", false, false);
        x.clear(0);
        shouldStand(x, "cleared", true, true);
    }

    private static void noSuchMatch() {
        int[] noMatches = {-1, 8, 99, 100, Integer.MIN_VALUE, Integer.MAX_VALUE};
        for (int match : noMatches) {
            Refused.noSuch("stands", match);
            Refused.noSuch(SkinLeague::new, "stands", match);
        }
        SkinLeague x = Checks.league(2);
        Checks.noSuch("stands(0) without a match", () -> x.stands(0));
        x.match(0, 1, 0);
        Checks.due("stands(0)", x.stands(0), true);
        Checks.noSuch("stands(1)", () -> x.stands(1));
        Checks.outOfRange("match(0, 0, 0)", () -> x.match(0, 0, 0));
        Checks.noSuch("stands(1) behind a match that was refused", () -> x.stands(1));
    }

    private static void asManyAsThereMayBe() {
        SkinLeague x = Checks.league(2);
        x.room(0, 50);
        x.room(1, 50);
        for (int i = 0; i < 100; i++) {
            x.match(i % 2, 1 - i % 2, i / 50);
        }
        x.proof(1, 0);
        for (int i = 0; i < 100; i++) {
            Checks.due("stands(" + i + ")", x.stands(i), i % 2 == 0);
        }
        Checks.noSuch("stands(100)", () -> x.stands(100));
        Checks.noSuch("stands(-1)", () -> x.stands(-1));
    }

    private static void shouldStand(SkinLeague x, String when, boolean... want) {
        for (int i = 0; i < want.length; i++) {
            Checks.due("stands(" + i + ") " + when, x.stands(i), want[i]);
        }
    }
}
