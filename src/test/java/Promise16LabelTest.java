/** Promise 16: label. */
public final class Promise16LabelTest {
    public static void main(String[] args) {
        ordinary();
        firstLastAndBehind();
        longNumbers();
        noSuchSkinOrPlace();
        Checks.end("promise 16");
    }

    private static void ordinary() {
        SkinLeague x = Checks.leagueWithSkins();
        Checks.due("label of 0", Checks.label(x, 0), "0:0/1@0");
        Checks.due("label of 1", Checks.label(x, 1), "1:0/2@1");
        x.sell(1, 2, 5);
        x.lend(1, 0, 9);
        Checks.due("label of 1 that was sold and lent", Checks.label(x, 1), "1:0/2@2");
        x.proof(0, 0);
        Checks.due("label of 1 whose heir changed", Checks.label(x, 1), "1:0/2@2");
        Checks.due("label of 2 that nobody holds", Checks.label(x, 2), "2:0/3");
        x.clear(0);
        Checks.due("label of 2 that somebody holds", Checks.label(x, 2), "2:0/3@2");
        x.match(0, 1, 0);
        x.end();
        Checks.due("label of 3", Checks.label(x, 3), "3:1/1@0");
    }

    private static void firstLastAndBehind() {
        SkinLeague x = Checks.leagueWithSkins();
        x.proof(0, 0);
        Checks.due("label(2, 0)", x.label(2, 0), '2');
        Checks.due("label(2, 4), the last one", x.label(2, 4), '3');
        Checks.due("label(2, 5), behind it", x.label(2, 5), 0);
        Checks.due("label(2, 6)", x.label(2, 6), 0);
        Checks.due("label(1, 0)", x.label(1, 0), '1');
        Checks.due("label(1, 6), the last one", x.label(1, 6), '2');
        Checks.due("label(1, 7), behind it", x.label(1, 7), 0);
        Checks.due("label(1, 8)", x.label(1, 8), 0);
        Checks.due("label(1, max)", x.label(1, Integer.MAX_VALUE), 0);
    }

    private static void longNumbers() {
        SkinLeague x = Checks.league(16);
        for (int season = 0; season < 11; season++) {
            x.pass(1);
            x.match(15, 14, 0);
            x.match(15, 13, 0);
            x.end();
        }
        Checks.due("label of 32", Checks.label(x, 32), "32:10/3@14");
        Checks.due("label of 31", Checks.label(x, 31), "31:10/2@13");
        Checks.due("label of 30", Checks.label(x, 30), "30:10/1@15");
        Checks.due("label of 29", Checks.label(x, 29), "29:9/3@14");
        Checks.due("label of 9", Checks.label(x, 9), "9:3/1@15");
        Checks.due("label of 10", Checks.label(x, 10), "10:3/2@13");
        x.sell(32, 9, 1);
        Checks.due("label of 32", Checks.label(x, 32), "32:10/3@9");
        x.sell(32, 10, 1);
        Checks.due("label of 32", Checks.label(x, 32), "32:10/3@10");
        x.sell(32, 0, 1);
        Checks.due("label of 32", Checks.label(x, 32), "32:10/3@0");
        Checks.due("label(31, 9), the last one", x.label(31, 9), '3');
        Checks.due("label(31, 10), behind it", x.label(31, 10), 0);
        Checks.noSuch("label(33, 0)", () -> x.label(33, 0));
        x.proof(15, 0);
        Checks.due("label of 31 that nobody holds", Checks.label(x, 31), "31:10/2");
        Checks.due("label of 32 that is good", Checks.label(x, 32), "32:10/3@0");
    }

    private static void noSuchSkinOrPlace() {
        int[] noSkins = {-1, 5, 35, 36, Integer.MIN_VALUE, Integer.MAX_VALUE};
        for (int skin : noSkins) {
            Refused.noSuch("label", skin, 0);
            Refused.noSuch("label", skin, 9);
            Refused.noSuch("label", skin, -1);
            Refused.noSuch(SkinLeague::new, "label", skin, 0);
        }
        for (int skin = 0; skin < 5; skin++) {
            Refused.noSuch("label", skin, -1);
            Refused.noSuch("label", skin, Integer.MIN_VALUE);
        }
    }
}
