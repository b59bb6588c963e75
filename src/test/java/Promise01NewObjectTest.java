/** Promise 1: a new object is a league on day 0, without players. */
public final class Promise01NewObjectTest {
    public static void main(String[] args) {
        Checks.due("NONE", SkinLeague.NONE, -1);
        thereIsNothingYet();
        itIsDayZero();
        theFirstSeasonIsOn();
        eachRegionHasRoomForTen();
        twoObjectsShareNothing();
        Checks.end("promise 1");
    }

    private static void thereIsNothingYet() {
        String[] ofOne = {"clear", "stands", "money"};
        for (String name : ofOne) {
            Refused.noSuch(SkinLeague::new, name, 0);
        }
        String[] ofTwo = {"proof", "ban", "skinOf", "label"};
        for (String name : ofTwo) {
            Refused.noSuch(SkinLeague::new, name, 0, 0);
        }
        String[] ofThree = {"match", "sell", "lend", "ranked"};
        for (String name : ofThree) {
            Refused.noSuch(SkinLeague::new, name, 0, 1, 1);
        }
        // That it does not exist goes ahead of an argument that is out of range for any.
        Refused.noSuch(SkinLeague::new, "match", 0, 0, 0);
        Refused.noSuch(SkinLeague::new, "sell", 0, 0, -1);
        Refused.noSuch(SkinLeague::new, "lend", 0, 0, 0);
        Refused.noSuch(SkinLeague::new, "proof", 0, 1);
        Refused.noSuch(SkinLeague::new, "ban", 0, -1);
        Refused.noSuch(SkinLeague::new, "ranked", 0, 0, 3);
        Refused.noSuch(SkinLeague::new, "skinOf", 0, 7);
        SkinLeague x = new SkinLeague();
        Checks.due("player()", x.player(), 0);
        Checks.due("money(0)", x.money(0), 0);
        Checks.due("proof(0, 0) without a match", x.proof(0, 0), 0);
    }

    private static void itIsDayZero() {
        Checks.due("pass(1)", new SkinLeague().pass(1), 1);
        SkinLeague x = Checks.league(1);
        Checks.due("ban(0, 0) tells the day", x.ban(0, 0), 0);
        Checks.outOfRange("proof(0, 1) on day 0", () -> x.proof(0, 1));
        Checks.due("proof(0, 0)", x.proof(0, 0), 0);
        Checks.due("clear(0)", x.clear(0), 0);
    }

    private static void theFirstSeasonIsOn() {
        SkinLeague x = Checks.league(1);
        for (int what = 0; what < 3; what++) {
            Checks.due("ranked(0, 0, " + what + ")", x.ranked(0, 0, what), 0);
        }
        Checks.noSuch("ranked(1, 0, 0) in season 0", () -> x.ranked(1, 0, 0));
        Checks.due("end() without a player", new SkinLeague().end(), 0);
        Checks.due("end() without a match", x.end(), 0);
        Checks.noSuch("skinOf(0, 0) behind that", () -> x.skinOf(0, 0));
    }

    private static void eachRegionHasRoomForTen() {
        SkinLeague x = Checks.league(2);
        for (int region = 0; region < 4; region++) {
            int in = region;
            for (int i = 0; i < 10; i++) {
                Checks.due("match(0, 1, " + region + ")", x.match(0, 1, region), 10 * region + i);
            }
            Checks.notNow("match 10 in region " + region, () -> x.match(0, 1, in));
        }
        SkinLeague y = new SkinLeague();
        for (int region = 0; region < 4; region++) {
            Checks.due("room(" + region + ", 1)", y.room(region, 1), 0);
        }
    }

    private static void twoObjectsShareNothing() {
        SkinLeague one = Checks.leagueWithSkins();
        SkinLeague other = new SkinLeague();
        one.pass(5);
        one.room(0, 0);
        one.ban(0, 9);
        one.proof(1, 0);
        Checks.due("player() of another object", other.player(), 0);
        other.player();
        Checks.due("pass(1) of another object", other.pass(1), 1);
        Checks.due("match(0, 1, 0) of another object", other.match(0, 1, 0), 0);
        Checks.due("match(1, 0, 0) of another object", other.match(1, 0, 0), 1);
        Checks.due("it stands", other.stands(1), true);
        Checks.due("ranked(0, 0, 0) of another object", other.ranked(0, 0, 0), 4);
        Checks.noSuch("skinOf(0, 0) of another object", () -> other.skinOf(0, 0));
    }
}
