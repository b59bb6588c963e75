/** Promise 6: sell. */
public final class Promise06SellTest {
    public static void main(String[] args) {
        ordinary();
        faith();
        twentySales();
        salesThatWereUndoneDoNotCount();
        notNow();
        wrongInputs();
        Checks.end("promise 6");
    }

    private static void ordinary() {
        SkinLeague x = Checks.leagueWithSkins();
        x.lend(0, 2, 50);
        Checks.due("sell(0, 1, 10000)", x.sell(0, 1, 10000), true);
        Checks.due("the seller's money", x.money(0), 10000);
        Checks.due("the buyer's money", x.money(1), -10000);
        Checks.due("the holder", x.skinOf(0, 0), 1);
        Checks.due("the heir", x.skinOf(0, 1), 0);
        Checks.due("the user: the lending is over", x.skinOf(0, 2), 1);
        Checks.due("the sales", x.skinOf(0, 5), 1);
        Checks.due("it is good", x.skinOf(0, 6), 1);
        Checks.due("sell(0, 0, 0)", x.sell(0, 0, 0), true);
        Checks.due("the holder", x.skinOf(0, 0), 0);
        Checks.due("the sales", x.skinOf(0, 5), 2);
    }

    private static void faith() {
        SkinLeague x = Checks.leagueWithSkins();
        x.player();
        x.player();
        x.proof(4, 0);
        Checks.due("a proven buyer", x.sell(0, 4, 7), false);
        Checks.due("it is not good", x.skinOf(0, 6), 0);
        Checks.due("a proven seller", x.sell(0, 1, 8), false);
        Checks.due("it is not good", x.skinOf(0, 6), 0);
        x.clear(4);
        Checks.due("what is cleared later makes no sale in faith", x.skinOf(0, 6), 0);
        Checks.due("a cleared buyer", x.sell(0, 4, 9), true);
        Checks.due("it is good", x.skinOf(0, 6), 1);
        x.proof(4, 0);
        Checks.due("what is proven later leaves it good", x.skinOf(0, 6), 1);
        Checks.due("a sale out of faith", x.sell(0, 3, 11), false);
        Checks.due("leaves it good", x.skinOf(0, 6), 1);
        Checks.due("the sales", x.skinOf(0, 5), 4);
    }

    private static void twentySales() {
        SkinLeague x = Checks.leagueWithSkins();
        for (int i = 0; i < 20; i++) {
            Checks.due("sale " + i, x.sell(1, i % 2 == 0 ? 0 : 1, 3), true);
        }
        Checks.notNow("sale 20", () -> x.sell(1, 0, 3));
        Checks.due("the sales", x.skinOf(1, 5), 20);
        Checks.due("the holder", x.skinOf(1, 0), 1);
        Checks.due("the money", x.money(0), 0);
        Checks.due("another skin may be sold", x.sell(0, 1, 3), true);
        Checks.due("it may be lent", x.lend(1, 0, 1), 0);
    }

    private static void salesThatWereUndoneDoNotCount() {
        SkinLeague x = Checks.leagueWithSkins();
        x.player();
        x.player();
        x.proof(3, 0);
        x.proof(4, 0);
        x.sell(0, 3, 1);
        for (int i = 1; i < 20; i++) {
            Checks.due("a sale among proven players", x.sell(0, i % 2 == 0 ? 3 : 4, 1), false);
        }
        Checks.notNow("sale 20", () -> x.sell(0, 3, 1));
        x.proof(0, 0);
        Checks.due("the sales", x.skinOf(0, 5), 0);
        Checks.due("money of 0", x.money(0), 0);
        Checks.due("money of 3", x.money(3), 0);
        Checks.due("money of 4", x.money(4), 0);
        Checks.due("the holder", x.skinOf(0, 0), 1);
        for (int i = 0; i < 20; i++) {
            Checks.due("a sale after that", x.sell(0, i % 2 == 0 ? 2 : 1, 1), true);
        }
        Checks.notNow("sale 20 after that", () -> x.sell(0, 2, 1));
    }

    private static void notNow() {
        SkinLeague x = Checks.leagueWithSkins();
        Checks.notNow("the buyer holds it", () -> x.sell(0, 0, 1));
        x.ban(0, 1);
        Checks.notNow("the holder is banned", () -> x.sell(0, 1, 1));
        Checks.notNow("the buyer is banned", () -> x.sell(1, 0, 1));
        Checks.due("money of 0", x.money(0), 0);
        x.pass(1);
        Checks.due("the ban is over", x.sell(0, 1, 1), true);
        x.lend(2, 0, 9);
        Checks.due("a borrower may buy", x.sell(2, 0, 1), true);
        SkinLeague y = Checks.leagueWithSkins();
        y.proof(0, 0);
        y.proof(1, 0);
        Checks.due("nobody holds it", y.skinOf(0, 0), -1);
        Checks.notNow("nobody holds it", () -> y.sell(0, 2, 1));
    }

    private static void wrongInputs() {
        SkinLeague x = Checks.leagueWithSkins();
        x.ban(0, 5);
        Checks.noSuch("sell(3, 1, 1)", () -> x.sell(3, 1, 1));
        Checks.noSuch("sell(-1, 1, 1)", () -> x.sell(-1, 1, 1));
        Checks.noSuch("sell(0, 3, 1)", () -> x.sell(0, 3, 1));
        Checks.noSuch("sell(0, -1, 1)", () -> x.sell(0, -1, 1));
        Checks.noSuch("sell(3, 1, -1)", () -> x.sell(3, 1, -1));
        Checks.noSuch("sell(0, 3, 10001)", () -> x.sell(0, 3, 10001));
        Checks.noSuch("sell(36, 1, 1)", () -> x.sell(36, 1, 1));
        Checks.noSuch("sell(max, min, 1)", () -> x.sell(Integer.MAX_VALUE, Integer.MIN_VALUE, 1));
        Checks.outOfRange("sell(0, 0, -1)", () -> x.sell(0, 0, -1));
        Checks.outOfRange("sell(0, 1, 10001)", () -> x.sell(0, 1, 10001));
        Checks.due("the sales", x.skinOf(0, 5), 0);
        Checks.due("the holder", x.skinOf(0, 0), 0);
    }
}
