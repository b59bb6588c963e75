/** Promise 12: stands. */
public final class Promise12StandsTest {
    public static void main(String[] args) {
        SkinLeague x = Checks.league(3);
        x.match(0, 1, 0);
        x.pass(5);
        x.match(0, 1, 0);
        x.end();
        x.match(1, 0, 0);
        x.pass(1);
        x.match(0, 2, 0);
        shouldStand(x, "without a proof", true, true, true, true);
        x.proof(0, 6);
        shouldStand(x, "since the day of the match", true, true, true, false);
        x.proof(0, 1);
        shouldStand(x, "since a day ahead of it", true, false, true, false);
        x.proof(0, 0);
        shouldStand(x, "since day 0", false, false, true, false);
        x.proof(2, 0);
        shouldStand(x, "a loser who cheated", false, false, true, false);
        x.clear(0);
        shouldStand(x, "cleared", true, true, true, true);
        Checks.noSuch("stands(4)", () -> x.stands(4));
        Checks.noSuch("stands(-1)", () -> x.stands(-1));
        Checks.noSuch("stands(100)", () -> x.stands(100));
        Checks.noSuch("stands(max)", () -> x.stands(Integer.MAX_VALUE));
        Checks.noSuch("stands(min)", () -> x.stands(Integer.MIN_VALUE));
        Checks.end("promise 12");
    }

    private static void shouldStand(SkinLeague x, String when, boolean... want) {
        for (int i = 0; i < want.length; i++) {
            Checks.due("stands(" + i + ") " + when, x.stands(i), want[i]);
        }
    }
}
