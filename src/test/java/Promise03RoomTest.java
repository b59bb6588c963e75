/** Promise 3: room. */
public final class Promise03RoomTest {
    public static void main(String[] args) {
        firstRoom();
        countsOfToday();
        edges();
        wrongInputs();
        Checks.end("promise 3");
    }

    private static void firstRoom() {
        for (int region = 0; region < 4; region++) {
            SkinLeague x = Checks.league(2);
            int in = region;
            for (int i = 0; i < 10; i++) {
                Checks.due("match(0, 1, " + region + ")", x.match(0, 1, region), i);
            }
            Checks.notNow("match in a full region", () -> x.match(0, 1, in));
            Checks.due("match in another region", x.match(0, 1, (region + 1) % 4), 10);
        }
    }

    private static void countsOfToday() {
        SkinLeague x = Checks.league(3);
        Checks.due("room(1, 3)", x.room(1, 3), 0);
        x.match(0, 1, 1);
        x.match(0, 1, 1);
        x.match(0, 1, 2);
        Checks.due("room(1, 3)", x.room(1, 3), 2);
        Checks.due("room(2, 10)", x.room(2, 10), 1);
        Checks.due("room(3, 10)", x.room(3, 10), 0);
        x.proof(0, 0);
        Checks.due("room(1, 2) counts matches that do not stand", x.room(1, 2), 2);
        Checks.notNow("match(1, 2, 1)", () -> x.match(1, 2, 1));
        x.end();
        Checks.due("room(1, 2) in the next season", x.room(1, 2), 2);
        x.pass(1);
        Checks.due("room(1, 1) on the next day", x.room(1, 1), 0);
        x.match(1, 2, 1);
        Checks.notNow("match(1, 2, 1)", () -> x.match(1, 2, 1));
        x.pass(1);
        x.match(1, 2, 1);
        Checks.notNow("the room holds for each day", () -> x.match(1, 2, 1));
    }

    private static void edges() {
        SkinLeague x = Checks.league(2);
        x.match(0, 1, 0);
        Checks.due("room(0, 0) below the matches of today", x.room(0, 0), 1);
        Checks.notNow("match(0, 1, 0)", () -> x.match(0, 1, 0));
        Checks.due("room(0, 50)", x.room(0, 50), 1);
        for (int i = 1; i < 50; i++) {
            Checks.due("match(0, 1, 0)", x.match(0, 1, 0), i);
        }
        Checks.notNow("match 51 of a day", () -> x.match(0, 1, 0));
        Checks.due("room(0, 50)", x.room(0, 50), 50);
    }

    private static void wrongInputs() {
        SkinLeague x = Checks.league(2);
        Checks.noSuch("room(4, 1)", () -> x.room(4, 1));
        Checks.noSuch("room(-1, 1)", () -> x.room(-1, 1));
        Checks.noSuch("room(4, 51)", () -> x.room(4, 51));
        Checks.noSuch("room(min, 1)", () -> x.room(Integer.MIN_VALUE, 1));
        Checks.noSuch("room(max, 1)", () -> x.room(Integer.MAX_VALUE, 1));
        Checks.outOfRange("room(0, 51)", () -> x.room(0, 51));
        Checks.outOfRange("room(0, -1)", () -> x.room(0, -1));
        for (int i = 0; i < 10; i++) {
            Checks.due("the room is still 10", x.match(0, 1, 0), i);
        }
    }
}
