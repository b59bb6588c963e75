import java.util.ArrayList;
import java.util.List;
import java.util.Random;

/**
 * Runs of at most 512 calls, found from written seeds, against a plain model of the document that holds
 * nothing but what was told and finds each ranking anew by sorting. Of an exception the very class is due.
 */
public final class RandomRunsTest {
    private static final int RUNS = 6000;
    private static final int CALLS = 512;
    private static final String NO_SUCH = "IndexOutOfBoundsException";
    private static final String OUT_OF_RANGE = "IllegalArgumentException";
    private static final String NOT_NOW = "IllegalStateException";

    public static void main(String[] args) {
        int[] answered = new int[16];
        int[] refused = new int[16];
        for (int run = 0; run < RUNS; run++) {
            if (!runIsAsDue(run, answered, refused)) {
                System.exit(1);
            }
        }
        for (int kind = 0; kind < 15; kind++) {
            if (answered[kind] < 1000 || kind != 0 && refused[kind] < 100) {
                System.out.println("calls of kind " + kind + " are too few: " + answered[kind] + ", " + refused[kind]);
                System.exit(1);
            }
        }
        System.out.println("random runs: all answers are as due");
    }

    private static boolean runIsAsDue(int seed, int[] answered, int[] refused) {
        Random random = new Random(seed);
        SkinLeague real = new SkinLeague();
        Model model = new Model();
        List<String> told = new ArrayList<>();
        int calls = 0;
        int players = 2 + random.nextInt(random.nextInt(4) == 0 ? 15 : 5);
        int[] weights = weights(random);
        while (calls < CALLS) {
            int kind = calls < players ? 0 : pick(random, weights);
            int[] a = arguments(random, kind, model);
            String got = answerOf(real, kind, a);
            String want = model.answer(kind, a);
            told.add(NAMES[kind] + java.util.Arrays.toString(a) + " = " + got);
            calls++;
            if (want.endsWith("Exception")) {
                refused[kind]++;
            } else {
                answered[kind]++;
            }
            if (!got.equals(want)) {
                told.forEach(System.out::println);
                System.out.println("run " + seed + ": the last call answered " + got + ", due is " + want);
                return false;
            }
        }
        return true;
    }

    private static final String[] NAMES = {"player", "room", "match", "end", "sell", "lend", "proof", "clear",
        "ban", "pass", "stands", "ranked", "skinOf", "money", "label"};

    private static int[] weights(Random random) {
        int[] weights = {1, 2, 20, 4, 25, 8, 12, 12, 4, 6, 8, 20, 30, 20, 8};
        for (int i = 1; i < weights.length; i++) {
            weights[i] = 1 + weights[i] * (1 + random.nextInt(10)) / 4;
        }
        weights[9] = 1 + weights[9] / (1 + random.nextInt(8));
        weights[3] = 1 + weights[3] / (1 + random.nextInt(4));
        return weights;
    }

    private static int pick(Random random, int[] weights) {
        int sum = 0;
        for (int weight : weights) {
            sum += weight;
        }
        int at = random.nextInt(sum);
        int kind = 0;
        while (at >= weights[kind]) {
            at -= weights[kind];
            kind++;
        }
        return kind;
    }

    private static final int[] WILD = {Integer.MIN_VALUE, -1, 0, 3, 4, 11, 12, 16, 36, 50, 51, 100, 101, 400, 401,
        1000, 1001, 10000, 10001, Integer.MAX_VALUE};

    /** Mostly what exists and is in range, sometimes just outside, rarely wild. */
    private static int[] arguments(Random random, int kind, Model model) {
        int player = upTo(random, model.money.size());
        int other = upTo(random, model.money.size());
        int region = upTo(random, 4);
        int skin = upTo(random, model.skins.size());
        int[] a;
        switch (kind) {
            case 0: case 3: a = new int[0]; break;
            case 1: a = new int[] {region, oneIn(random, 4) ? between(random, -1, 51) : between(random, 2, 21)}; break;
            case 2: a = new int[] {player, other, region}; break;
            case 4: a = new int[] {skin, player, oneIn(random, 20) ? between(random, 9990, 10009)
                    : between(random, -1, 198)}; break;
            case 5: a = new int[] {skin, player, oneIn(random, 8) ? between(random, -1, 102)
                    : between(random, 1, 6)}; break;
            case 6: a = new int[] {player, between(random, oneIn(random, 12) ? -1 : 0, model.today + 1)}; break;
            case 7: a = new int[] {model.proven(random)}; break;
            case 8: a = new int[] {player, oneIn(random, 8) ? between(random, -1, 1002) : between(random, 0, 3)}; break;
            case 9: a = new int[] {oneIn(random, 8) ? between(random, -1, 402) : between(random, 0, 3)}; break;
            case 10: a = new int[] {upTo(random, model.matches.size())}; break;
            case 11: a = new int[] {upTo(random, model.season + 1), player, upTo(random, 3)}; break;
            case 12: a = new int[] {skin, upTo(random, 7)}; break;
            case 13: a = new int[] {player}; break;
            default: a = new int[] {skin, between(random, -1, 12)}; break;
        }
        if (a.length > 0 && random.nextInt(40) == 0) {
            a[random.nextInt(a.length)] = WILD[random.nextInt(WILD.length)];
        }
        return a;
    }

    private static boolean oneIn(Random random, int times) {
        return random.nextInt(times) == 0;
    }

    private static int between(Random random, int least, int most) {
        return least + random.nextInt(most - least + 1);
    }

    private static int upTo(Random random, int bound) {
        return random.nextInt(25) == 0 ? random.nextInt(bound + 3) - 1 : random.nextInt(Math.max(1, bound));
    }

    private static String answerOf(SkinLeague x, int kind, int[] a) {
        try {
            switch (kind) {
                case 0: return "" + x.player();
                case 1: return "" + x.room(a[0], a[1]);
                case 2: return "" + x.match(a[0], a[1], a[2]);
                case 3: return "" + x.end();
                case 4: return "" + x.sell(a[0], a[1], a[2]);
                case 5: return "" + x.lend(a[0], a[1], a[2]);
                case 6: return "" + x.proof(a[0], a[1]);
                case 7: return "" + x.clear(a[0]);
                case 8: return "" + x.ban(a[0], a[1]);
                case 9: return "" + x.pass(a[0]);
                case 10: return "" + x.stands(a[0]);
                case 11: return "" + x.ranked(a[0], a[1], a[2]);
                case 12: return "" + x.skinOf(a[0], a[1]);
                case 13: return "" + x.money(a[0]);
                default: return "" + (int) x.label(a[0], a[1]);
            }
        } catch (Throwable e) {
            return e.getClass().getSimpleName();
        }
    }

    private static final class Sold {
        int from;
        int to;
        int price;
        boolean faith;
    }

    private static final class Prize {
        int season;
        int place;
        int heir;
        int holder;
        int borrower = -1;
        int until;
        List<Sold> sales = new ArrayList<>();

        Sold firstInFaith() {
            for (Sold sold : sales) {
                if (sold.faith) {
                    return sold;
                }
            }
            return null;
        }
    }

    private static final class Model {
        final List<Integer> money = new ArrayList<>();
        final List<Integer> bannedTo = new ArrayList<>();
        final List<List<Integer>> proofs = new ArrayList<>();
        /** Winner, loser, region, day, season. */
        final List<int[]> matches = new ArrayList<>();
        final List<Prize> skins = new ArrayList<>();
        final int[] rooms = {10, 10, 10, 10};
        int today;
        int season;

        int proven(Random random) {
            List<Integer> all = new ArrayList<>();
            for (int i = 0; i < proofs.size(); i++) {
                if (since(i) >= 0) {
                    all.add(i);
                }
            }
            boolean anyone = all.isEmpty() || oneIn(random, 8);
            return anyone ? upTo(random, money.size()) : all.get(random.nextInt(all.size()));
        }

        boolean noPlayer(int player) {
            return player < 0 || player >= money.size();
        }

        boolean noSkin(int skin) {
            return skin < 0 || skin >= skins.size();
        }

        boolean banned(int player) {
            return bannedTo.get(player) >= today;
        }

        int since(int player) {
            return proofs.get(player).stream().mapToInt(i -> i).min().orElse(-1);
        }

        boolean standing(int[] match) {
            return proofs.get(match[0]).stream().noneMatch(since -> since <= match[3]);
        }

        int inRegion(int region) {
            return (int) matches.stream().filter(m -> m[2] == region && m[3] == today).count();
        }

        int gamesOf(int asked, int player) {
            return (int) matches.stream().filter(m -> m[4] == asked && standing(m)
                    && (m[0] == player || m[1] == player)).count();
        }

        int pointsOf(int asked, int player) {
            return matches.stream().filter(m -> m[4] == asked && standing(m))
                    .mapToInt(m -> m[0] == player ? 3 : m[1] == player ? 1 : 0).sum();
        }

        List<Integer> ranking(int asked) {
            List<Integer> all = new ArrayList<>();
            int[] points = new int[money.size()];
            int[] games = new int[money.size()];
            for (int i = 0; i < money.size(); i++) {
                points[i] = pointsOf(asked, i);
                games[i] = gamesOf(asked, i);
                if (points[i] > 0) {
                    all.add(i);
                }
            }
            all.sort((a, b) -> points[a] != points[b] ? points[b] - points[a]
                    : games[a] != games[b] ? games[a] - games[b] : a - b);
            return all;
        }

        void pay(int from, int to, int price) {
            money.set(from, money.get(from) - price);
            money.set(to, money.get(to) + price);
        }

        void settle() {
            for (int ended = 0; ended < season; ended++) {
                List<Integer> ranking = ranking(ended);
                for (int place = 1; place <= 3; place++) {
                    for (Prize skin : skins) {
                        if (skin.season == ended && skin.place == place) {
                            settleOne(skin, place <= ranking.size() ? ranking.get(place - 1) : -1);
                        }
                    }
                }
            }
        }

        void settleOne(Prize skin, int heir) {
            int before = skin.heir;
            if (before == heir) {
                return;
            }
            skin.heir = heir;
            Sold first = skin.firstInFaith();
            if (first != null) {
                if (before >= 0 && heir >= 0) {
                    pay(before, heir, first.price);
                }
                return;
            }
            while (!skin.sales.isEmpty()) {
                Sold last = skin.sales.remove(skin.sales.size() - 1);
                pay(last.from, last.to, last.price);
            }
            skin.holder = heir;
            skin.borrower = -1;
        }

        String answer(int kind, int[] a) {
            switch (kind) {
                case 0: return come();
                case 1: return room(a[0], a[1]);
                case 2: return match(a[0], a[1], a[2]);
                case 3: return end();
                case 4: return sell(a[0], a[1], a[2]);
                case 5: return lend(a[0], a[1], a[2]);
                case 6: return proof(a[0], a[1]);
                case 7: return clear(a[0]);
                case 8: return ban(a[0], a[1]);
                case 9: return pass(a[0]);
                case 10: return a[0] < 0 || a[0] >= matches.size() ? NO_SUCH : "" + standing(matches.get(a[0]));
                case 11: return ranked(a[0], a[1], a[2]);
                case 12: return skinOf(a[0], a[1]);
                case 13: return noPlayer(a[0]) ? NO_SUCH : "" + money.get(a[0]);
                default: return label(a[0], a[1]);
            }
        }

        String come() {
            if (money.size() == 16) {
                return NOT_NOW;
            }
            money.add(0);
            bannedTo.add(-1);
            proofs.add(new ArrayList<>());
            return "" + (money.size() - 1);
        }

        String room(int region, int room) {
            if (region < 0 || region > 3) {
                return NO_SUCH;
            }
            if (room < 0 || room > 50) {
                return OUT_OF_RANGE;
            }
            rooms[region] = room;
            return "" + inRegion(region);
        }

        String match(int winner, int loser, int region) {
            if (noPlayer(winner) || noPlayer(loser) || region < 0 || region > 3) {
                return NO_SUCH;
            }
            if (winner == loser) {
                return OUT_OF_RANGE;
            }
            if (matches.size() == 100 || banned(winner) || banned(loser) || inRegion(region) >= rooms[region]) {
                return NOT_NOW;
            }
            matches.add(new int[] {winner, loser, region, today, season});
            return "" + (matches.size() - 1);
        }

        String end() {
            if (season == 11) {
                return NOT_NOW;
            }
            List<Integer> ranking = ranking(season);
            int won = Math.min(3, ranking.size());
            for (int i = 0; i < won; i++) {
                Prize skin = new Prize();
                skin.season = season;
                skin.place = i + 1;
                skin.heir = ranking.get(i);
                skin.holder = skin.heir;
                skins.add(skin);
            }
            season++;
            return "" + won;
        }

        String sell(int number, int buyer, int price) {
            if (noSkin(number) || noPlayer(buyer)) {
                return NO_SUCH;
            }
            if (price < 0 || price > 10000) {
                return OUT_OF_RANGE;
            }
            Prize skin = skins.get(number);
            if (skin.holder < 0 || skin.holder == buyer || banned(skin.holder) || banned(buyer)
                    || skin.sales.size() == 20) {
                return NOT_NOW;
            }
            Sold sold = new Sold();
            sold.from = skin.holder;
            sold.to = buyer;
            sold.price = price;
            sold.faith = proofs.get(skin.holder).isEmpty() && proofs.get(buyer).isEmpty();
            skin.sales.add(sold);
            pay(buyer, skin.holder, price);
            skin.holder = buyer;
            skin.borrower = -1;
            return "" + sold.faith;
        }

        String lend(int number, int borrower, int days) {
            if (noSkin(number) || noPlayer(borrower)) {
                return NO_SUCH;
            }
            if (days < 1 || days > 100) {
                return OUT_OF_RANGE;
            }
            Prize skin = skins.get(number);
            if (skin.holder < 0 || skin.holder == borrower || banned(skin.holder) || banned(borrower)) {
                return NOT_NOW;
            }
            skin.borrower = borrower;
            skin.until = today + days - 1;
            return "" + skin.until;
        }

        String proof(int player, int since) {
            if (noPlayer(player)) {
                return NO_SUCH;
            }
            if (since < 0 || since > today) {
                return OUT_OF_RANGE;
            }
            proofs.get(player).add(since);
            settle();
            return "" + matches.stream().filter(m -> !standing(m)).count();
        }

        String clear(int player) {
            if (noPlayer(player)) {
                return NO_SUCH;
            }
            int since = since(player);
            if (since < 0) {
                return NOT_NOW;
            }
            proofs.get(player).clear();
            settle();
            return "" + since;
        }

        String ban(int player, int days) {
            if (noPlayer(player)) {
                return NO_SUCH;
            }
            if (days < 0 || days > 1000) {
                return OUT_OF_RANGE;
            }
            bannedTo.set(player, today + days - 1);
            return "" + (today + days);
        }

        String pass(int days) {
            if (days < 1 || days > 400) {
                return OUT_OF_RANGE;
            }
            today += days;
            return "" + today;
        }

        String ranked(int asked, int player, int what) {
            if (asked < 0 || asked > season || noPlayer(player)) {
                return NO_SUCH;
            }
            if (what < 0 || what > 2) {
                return OUT_OF_RANGE;
            }
            return "" + (what == 0 ? pointsOf(asked, player) : what == 1 ? gamesOf(asked, player)
                    : ranking(asked).indexOf(player) + 1);
        }

        String skinOf(int number, int what) {
            if (noSkin(number)) {
                return NO_SUCH;
            }
            if (what < 0 || what > 6) {
                return OUT_OF_RANGE;
            }
            Prize skin = skins.get(number);
            int user = skin.borrower >= 0 && today <= skin.until ? skin.borrower : skin.holder;
            int[] facts = {skin.holder, skin.heir, user, skin.season, skin.place, skin.sales.size(),
                skin.firstInFaith() != null ? 1 : 0};
            return "" + facts[what];
        }

        String label(int number, int place) {
            if (noSkin(number) || place < 0) {
                return NO_SUCH;
            }
            Prize skin = skins.get(number);
            String text = number + ":" + skin.season + "/" + skin.place + (skin.holder >= 0 ? "@" + skin.holder : "");
            return "" + (place < text.length() ? (int) text.charAt(place) : 0);
        }
    }
}
