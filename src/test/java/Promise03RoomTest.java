/** Promise 3: room. */
public final class Promise03RoomTest {
    public static void main(String[] args) {
        countsOfToday();
        countsOfEachRegion();
        noRoom();
        roomForOne();
        roomForFifty();
        roomBelowTheMatchesOfToday();
        wrongInputs();
        Checks.end("promise 3");
    }

    private static void countsOfToday() {
        SkinLeague x = Checks.league(3);
        Checks.due("room(1, 3) without a match", x.room(1, 3), 0);
        x.match(0, 1, 1);
        x.match(0, 1, 1);
        Checks.due("room(1, 3)", x.room(1, 3), 2);
        x.proof(0, 0);
        Checks.due("room(1, 2) counts matches that do not stand", x.room(1, 2), 2);
        Checks.notNow("match(1, 2, 1)", () -> x.match(1, 2, 1));
        Checks.due("room(1, 2) counts no match that is refused", x.room(1, 2), 2);
        x.end();
        Checks.due("room(1, 2) in the next season", x.room(1, 2), 2);
        Checks.notNow("match(1, 2, 1)", () -> x.match(1, 2, 1));
        x.pass(1);
        Checks.due("room(1, 1) on the next day", x.room(1, 1), 0);
        x.match(1, 2, 1);
        Checks.notNow("match(1, 2, 1)", () -> x.match(1, 2, 1));
        x.pass(1);
        x.match(1, 2, 1);
        Checks.notNow("the room holds for each day", () -> x.match(1, 2, 1));
    }

    private static void countsOfEachRegion() {
        SkinLeague x = Checks.league(2);
        for (int region = 0; region < 4; region++) {
            x.room(region, region + 1);
        }
        for (int region = 0; region < 4; region++) {
            int in = region;
            for (int i = 0; i <= region; i++) {
                x.match(0, 1, region);
            }
            Checks.notNow("match in region " + region + " that is full", () -> x.match(0, 1, in));
        }
        for (int region = 0; region < 4; region++) {
            Checks.due("room(" + region + ", 10)", x.room(region, 10), region + 1);
        }
    }

    private static void noRoom() {
        SkinLeague x = Checks.league(2);
        Checks.due("room(0, 0)", x.room(0, 0), 0);
        Checks.notNow("match in no room", () -> x.match(0, 1, 0));
        x.pass(1);
        Checks.notNow("match in no room on the next day", () -> x.match(0, 1, 0));
        Checks.due("room(0, 0)", x.room(0, 0), 0);
        Checks.due("match in another region", x.match(0, 1, 1), 0);
    }

    private static void roomForOne() {
        SkinLeague x = Checks.league(2);
        Checks.due("room(3, 1)", x.room(3, 1), 0);
        Checks.due("match(0, 1, 3)", x.match(0, 1, 3), 0);
        Checks.notNow("match(0, 1, 3) again", () -> x.match(0, 1, 3));
        Checks.due("room(3, 2)", x.room(3, 2), 1);
        Checks.due("match(0, 1, 3)", x.match(0, 1, 3), 1);
        Checks.due("room(3, 2)", x.room(3, 2), 2);
    }

    private static void roomForFifty() {
        SkinLeague x = Checks.league(2);
        Checks.due("room(0, 50)", x.room(0, 50), 0);
        for (int i = 0; i < 50; i++) {
            Checks.due("match(0, 1, 0)", x.match(0, 1, 0), i);
        }
        Checks.notNow("match 51 of a day", () -> x.match(0, 1, 0));
        Checks.due("room(0, 50)", x.room(0, 50), 50);
        Checks.due("room(0, 49)", x.room(0, 49), 50);
        x.pass(1);
        for (int i = 0; i < 49; i++) {
            Checks.due("match(0, 1, 0)", x.match(0, 1, 0), 50 + i);
        }
        Checks.notNow("match 50 of a day", () -> x.match(0, 1, 0));
    }

    private static void roomBelowTheMatchesOfToday() {
        SkinLeague x = Checks.league(2);
        for (int i = 0; i < 3; i++) {
            x.match(0, 1, 2);
        }
        Checks.due("room(2, 1)", x.room(2, 1), 3);
        Checks.notNow("match(0, 1, 2)", () -> x.match(0, 1, 2));
        Checks.due("a match that was told goes on to stand", x.stands(2), true);
        Checks.due("room(2, 3)", x.room(2, 3), 3);
        Checks.notNow("match(0, 1, 2) in just so much room", () -> x.match(0, 1, 2));
        Checks.due("room(2, 4)", x.room(2, 4), 3);
        Checks.due("match(0, 1, 2)", x.match(0, 1, 2), 3);
    }

    private static void wrongInputs() {
        int[] noRegions = {-1, 4, 5, Integer.MIN_VALUE, Integer.MAX_VALUE};
        int[] noRooms = {-1, 51, Integer.MIN_VALUE, Integer.MAX_VALUE};
        for (int region : noRegions) {
            Refused.noSuch("room", region, 0);
            Refused.noSuch("room", region, 50);
            for (int matches : noRooms) {
                Refused.noSuch("room", region, matches);
            }
        }
        for (int matches : noRooms) {
            for (int region = 0; region < 4; region++) {
                Refused.outOfRange("room", region, matches);
            }
        }
    }
}
