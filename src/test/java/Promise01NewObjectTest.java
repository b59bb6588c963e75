/** Promise 1: a new object is a league on day 0, without players. */
public final class Promise01NewObjectTest {
    public static void main(String[] args) {
        SkinLeague x = new SkinLeague();
        Checks.due("NONE", SkinLeague.NONE, -1);
        Checks.noSuch("money(0)", () -> x.money(0));
        Checks.noSuch("stands(0)", () -> x.stands(0));
        Checks.noSuch("skinOf(0, 0)", () -> x.skinOf(0, 0));
        Checks.noSuch("label(0, 0)", () -> x.label(0, 0));
        Checks.noSuch("match(0, 1, 0)", () -> x.match(0, 1, 0));
        Checks.noSuch("ranked(0, 0, 0)", () -> x.ranked(0, 0, 0));
        Checks.due("player()", x.player(), 0);
        Checks.due("money(0)", x.money(0), 0);
        Checks.due("ban(0, 0) tells the day", x.ban(0, 0), 0);
        Checks.outOfRange("proof(0, 1) on day 0", () -> x.proof(0, 1));
        Checks.due("ranked(0, 0, 0)", x.ranked(0, 0, 0), 0);
        Checks.noSuch("ranked(1, 0, 0) in season 0", () -> x.ranked(1, 0, 0));
        Checks.due("end() without a match", x.end(), 0);
        Checks.due("pass(1)", x.pass(1), 1);
        twoObjectsShareNothing();
        Checks.end("promise 1");
    }

    private static void twoObjectsShareNothing() {
        SkinLeague one = Checks.leagueWithSkins();
        SkinLeague other = new SkinLeague();
        one.pass(5);
        one.room(0, 0);
        Checks.due("player() of another object", other.player(), 0);
        other.player();
        Checks.due("pass(1) of another object", other.pass(1), 1);
        Checks.due("match(0, 1, 0) of another object", other.match(0, 1, 0), 0);
    }
}
