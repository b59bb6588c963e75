/** Promise 6: sell. */
public final class Promise06SellTest {
    public static void main(String[] args) {
        ordinary();
        leastAndGreatestPrice();
        faith();
        faithIsOfThatDay();
        goodFromTheFirstSaleInFaith();
        twentySales();
        salesThatWereUndoneDoNotCount();
        whoMaySell();
        bans();
        noSuchArguments();
        priceOutOfRange();
        notNow();
        Checks.end("promise 6");
    }

    private static void ordinary() {
        SkinLeague x = Checks.leagueWithSkins();
        x.lend(0, 2, 50);
        Checks.due("sell(0, 1, 30)", x.sell(0, 1, 30), true);
        Checks.due("the seller's money", x.money(0), 30);
        Checks.due("the buyer's money", x.money(1), -30);
        Checks.due("the holder", x.skinOf(0, 0), 1);
        Checks.due("the heir", x.skinOf(0, 1), 0);
        Checks.due("the user: the lending is over", x.skinOf(0, 2), 1);
        Checks.due("the sales", x.skinOf(0, 5), 1);
        Checks.due("it is good", x.skinOf(0, 6), 1);
        Checks.due("sell(0, 0, 10)", x.sell(0, 0, 10), true);
        Checks.due("the holder", x.skinOf(0, 0), 0);
        Checks.due("the sales", x.skinOf(0, 5), 2);
        Checks.due("the money", x.money(0), 20);
        Checks.due("sell(2, 1, 5): the last skin", x.sell(2, 1, 5), true);
        Checks.due("its holder", x.skinOf(2, 0), 1);
    }

    private static void leastAndGreatestPrice() {
        SkinLeague x = Checks.leagueWithSkins();
        Checks.due("sell(0, 1, 0)", x.sell(0, 1, 0), true);
        Checks.due("money of 0", x.money(0), 0);
        Checks.due("a sale for nothing makes it good", x.skinOf(0, 6), 1);
        Checks.due("and counts", x.skinOf(0, 5), 1);
        Checks.due("sell(1, 0, 10000)", x.sell(1, 0, 10000), true);
        Checks.due("money of 0", x.money(0), -10000);
        Checks.due("money of 1", x.money(1), 10000);
        x.sell(0, 2, 90);
        x.proof(0, 0);
        Checks.due("0 pays 1 the price of the first sale in faith of skin 0: nothing", x.money(0), -10000);
        Checks.due("1 pays 2 that of skin 1: 10000", x.money(1), 10000 + 90 - 10000);
        Checks.due("money of 2", x.money(2), -90 + 10000);
    }

    private static void faith() {
        SkinLeague x = Checks.leagueWithSkins();
        x.player();
        x.player();
        x.proof(3, 0);
        x.proof(4, 0);
        Checks.due("a proven buyer", x.sell(2, 4, 7), false);
        Checks.due("it is not good", x.skinOf(2, 6), 0);
        Checks.due("both are proven", x.sell(2, 3, 7), false);
        Checks.due("it is not good", x.skinOf(2, 6), 0);
        Checks.due("a proven seller", x.sell(2, 1, 8), false);
        Checks.due("it is not good", x.skinOf(2, 6), 0);
        Checks.due("who sold or held it ahead does not matter", x.sell(2, 0, 9), true);
        Checks.due("it is good", x.skinOf(2, 6), 1);
        x.clear(4);
        Checks.due("a cleared buyer", x.sell(1, 4, 9), true);
        Checks.due("a cleared seller", x.sell(1, 2, 9), true);
    }

    private static void faithIsOfThatDay() {
        SkinLeague x = Checks.leagueWithSkins();
        x.player();
        x.pass(5);
        x.proof(3, 5);
        Checks.due("proven since today", x.sell(0, 3, 7), false);
        x.clear(3);
        Checks.due("what is cleared later makes no sale in faith", x.skinOf(0, 6), 0);
        Checks.due("sell(1, 3, 7)", x.sell(1, 3, 7), true);
        x.proof(3, 0);
        Checks.due("what is proven later, since an earlier day, leaves it good", x.skinOf(1, 6), 1);
        Checks.due("sell(1, 2, 7)", x.sell(1, 2, 7), false);
        Checks.due("a later sale out of faith leaves it good", x.skinOf(1, 6), 1);
        x.pass(9);
        Checks.due("proven since days ago", x.sell(2, 3, 7), false);
    }

    private static void goodFromTheFirstSaleInFaith() {
        SkinLeague x = Checks.leagueWithSkins();
        x.player();
        Checks.due("never sold", x.skinOf(0, 6), 0);
        x.proof(3, 0);
        x.sell(0, 3, 100);
        x.sell(0, 1, 200);
        Checks.due("sold out of faith", x.skinOf(0, 6), 0);
        x.sell(0, 2, 300);
        Checks.due("sold in faith", x.skinOf(0, 6), 1);
        x.sell(0, 3, 400);
        x.clear(3);
        x.sell(0, 1, 500);
        int[] money = {x.money(0), x.money(1), x.money(2), x.money(3)};
        x.proof(0, 0);
        Checks.due("the sales", x.skinOf(0, 5), 5);
        Checks.due("the price of the first sale in faith is paid", x.money(0), money[0] - 300);
        Checks.due("to the heir", x.money(1), money[1] + 300);
        Checks.due("by nobody else", x.money(2), money[2]);
        Checks.due("by nobody else", x.money(3), money[3]);
    }

    private static SkinLeague leagueWithTwentySales() {
        SkinLeague x = Checks.leagueWithSkins();
        for (int i = 0; i < 20; i++) {
            Checks.due("sales ahead of that", x.skinOf(1, 5), i);
            Checks.due("sale " + i, x.sell(1, i % 2 == 0 ? 0 : 1, 3), true);
        }
        return x;
    }

    private static void twentySales() {
        SkinLeague x = leagueWithTwentySales();
        Checks.notNow("sale 20", () -> x.sell(1, 0, 3));
        Checks.due("the sales", x.skinOf(1, 5), 20);
        Checks.due("the holder", x.skinOf(1, 0), 1);
        Checks.due("the money", x.money(0), 0);
        Checks.due("another skin may be sold", x.sell(0, 1, 3), true);
        Checks.due("it may be lent", x.lend(1, 0, 1), 0);
        x.proof(0, 0);
        x.clear(0);
        x.pass(1);
        x.end();
        Checks.notNow("sale 20 later", () -> x.sell(1, 2, 3));
        Refused.notNow(Promise06SellTest::leagueWithTwentySales, "sell", 1, 0, 3);
        Refused.outOfRange(Promise06SellTest::leagueWithTwentySales, "sell", 1, 0, 10001);
        Refused.noSuch(Promise06SellTest::leagueWithTwentySales, "sell", 1, 3, 3);
    }

    private static void salesThatWereUndoneDoNotCount() {
        SkinLeague x = Checks.leagueWithSkins();
        x.player();
        x.player();
        x.proof(3, 0);
        x.proof(4, 0);
        x.sell(0, 3, 1);
        for (int i = 1; i < 20; i++) {
            Checks.due("a sale among proven players", x.sell(0, i % 2 == 0 ? 3 : 4, i), false);
        }
        Checks.notNow("sale 20", () -> x.sell(0, 3, 1));
        x.proof(0, 0);
        Checks.due("the sales", x.skinOf(0, 5), 0);
        Checks.due("money of 0", x.money(0), 0);
        Checks.due("money of 3", x.money(3), 0);
        Checks.due("money of 4", x.money(4), 0);
        Checks.due("the holder", x.skinOf(0, 0), 1);
        for (int i = 0; i < 20; i++) {
            Checks.due("a sale after that", x.sell(0, i % 2 == 0 ? 2 : 1, 1), true);
        }
        Checks.notNow("sale 20 after that", () -> x.sell(0, 2, 1));
    }

    private static void whoMaySell() {
        SkinLeague x = Checks.leagueWithSkins();
        Checks.notNow("the buyer holds it", () -> x.sell(0, 0, 1));
        x.lend(2, 0, 9);
        Checks.notNow("the buyer holds it, another one uses it", () -> x.sell(2, 2, 1));
        Checks.due("a borrower may buy", x.sell(2, 0, 1), true);
        Checks.due("and uses it then", x.skinOf(2, 2), 0);
        Checks.due("the heir may buy it back", x.sell(2, 2, 1), true);
        SkinLeague y = Checks.leagueWithSkins();
        y.proof(0, 0);
        y.proof(1, 0);
        Checks.due("nobody holds it", y.skinOf(0, 0), -1);
        Checks.notNow("nobody holds it", () -> y.sell(0, 2, 1));
        y.clear(1);
        Checks.due("somebody holds it", y.skinOf(0, 0), 1);
        Checks.due("sell(0, 2, 1)", y.sell(0, 2, 1), true);
    }

    private static void bans() {
        SkinLeague x = Checks.leagueWithSkins();
        x.ban(0, 2);
        Checks.notNow("the holder is banned", () -> x.sell(0, 1, 1));
        Checks.notNow("the buyer is banned", () -> x.sell(1, 0, 1));
        x.pass(1);
        Checks.notNow("the holder on the last day of the ban", () -> x.sell(0, 1, 1));
        Checks.notNow("the buyer on the last day of the ban", () -> x.sell(1, 0, 1));
        x.pass(1);
        Checks.due("the buyer's ban is over", x.sell(1, 0, 1), true);
        Checks.due("the holder's ban is over", x.sell(0, 1, 1), true);
    }

    private static void noSuchArguments() {
        int[] noNumbers = {-1, 5, Integer.MIN_VALUE, Integer.MAX_VALUE};
        for (int number : noNumbers) {
            Refused.noSuch("sell", number, 0, 0);
            Refused.noSuch("sell", 0, number, 10000);
            Refused.noSuch("sell", number, number, 5);
            // Ahead of a price that is out of range, and of each reason of what is not possible now.
            Refused.noSuch("sell", number, 0, -1);
            Refused.noSuch("sell", 1, number, 10001);
            Refused.noSuch("sell", number, 4, 5);
            Refused.noSuch("sell", 3, number, 5);
            Refused.noSuch("sell", 0, number, 5);
        }
        Refused.noSuch("sell", 35, 0, 5);
        Refused.noSuch("sell", 36, 0, 5);
        Refused.noSuch("sell", 0, 15, 5);
        Refused.noSuch("sell", 0, 16, 5);
    }

    private static void priceOutOfRange() {
        int[] noPrices = {-1, 10001, Integer.MIN_VALUE, Integer.MAX_VALUE};
        for (int price : noPrices) {
            Refused.outOfRange("sell", 2, 1, price);
            Refused.outOfRange("sell", 1, 2, price);
            // Ahead of: the buyer holds it, one of both is banned, nobody holds it.
            Refused.outOfRange("sell", 2, 2, price);
            Refused.outOfRange("sell", 0, 1, price);
            Refused.outOfRange("sell", 2, 4, price);
            Refused.outOfRange("sell", 3, 1, price);
        }
    }

    private static void notNow() {
        Refused.notNow("sell", 3, 0, 5);
        Refused.notNow("sell", 4, 3, 5);
        Refused.notNow("sell", 0, 4, 5);
        Refused.notNow("sell", 1, 0, 0);
        Refused.notNow("sell", 2, 2, 10000);
        Refused.notNow("sell", 0, 1, 5);
        Refused.notNow("sell", 1, 4, 5);
    }
}
