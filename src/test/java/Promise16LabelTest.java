/** Promise 16: label. */
public final class Promise16LabelTest {
    public static void main(String[] args) {
        ordinary();
        longNumbers();
        wrongInputs();
        Checks.end("promise 16");
    }

    private static void ordinary() {
        SkinLeague x = Checks.leagueWithSkins();
        Checks.due("label of 1", Checks.label(x, 1), "1:0/2@1");
        x.sell(1, 2, 5);
        x.lend(1, 0, 9);
        Checks.due("label of 1 that was sold", Checks.label(x, 1), "1:0/2@2");
        x.proof(0, 0);
        Checks.due("label of 2 that nobody holds", Checks.label(x, 2), "2:0/3");
        Checks.due("label(2, 5)", x.label(2, 5), 0);
        Checks.due("label(1, 6)", x.label(1, 6), '2');
        Checks.due("label(1, 7)", x.label(1, 7), 0);
        Checks.due("label(1, 8)", x.label(1, 8), 0);
        Checks.due("label(1, max)", x.label(1, Integer.MAX_VALUE), 0);
    }

    private static void longNumbers() {
        SkinLeague x = Checks.league(16);
        for (int season = 0; season < 11; season++) {
            x.pass(1);
            x.match(15, 14, 0);
            x.match(15, 13, 0);
            x.end();
        }
        Checks.due("label of 32", Checks.label(x, 32), "32:10/3@14");
        Checks.due("label of 31", Checks.label(x, 31), "31:10/2@13");
        Checks.due("label of 30", Checks.label(x, 30), "30:10/1@15");
        Checks.due("label of 8", Checks.label(x, 8), "8:2/3@14");
        Checks.due("label(32, 10)", x.label(32, 10), 0);
    }

    private static void wrongInputs() {
        SkinLeague x = Checks.leagueWithSkins();
        Checks.noSuch("label(3, 0)", () -> x.label(3, 0));
        Checks.noSuch("label(-1, 0)", () -> x.label(-1, 0));
        Checks.noSuch("label(36, 0)", () -> x.label(36, 0));
        Checks.noSuch("label(0, -1)", () -> x.label(0, -1));
        Checks.noSuch("label(0, min)", () -> x.label(0, Integer.MIN_VALUE));
    }
}
