/**
 * A game league with its skins: matches, ranks and prizes that are found anew
 * whenever a cheat is proven or cleared.
 */
public final class SkinLeague {
    public static final int NONE = -1;

    private static final int MOST_PLAYERS = 16;
    private static final int MOST_MATCHES = 100;
    private static final int MOST_SKINS = 36;
    private static final int MOST_SALES = 20;
    private static final int SEASONS = 12;
    private static final int REGIONS = 4;
    private static final int PRIZES = 3;
    private static final int FIRST_ROOM = 10;
    private static final int MOST_ROOM = 50;
    private static final int MOST_PRICE = 10000;
    private static final int MOST_LENT_DAYS = 100;
    private static final int MOST_BANNED_DAYS = 1000;
    private static final int MOST_PASSING_DAYS = 400;
    private static final int POINTS_OF_WINNER = 3;
    private static final int POINTS_OF_LOSER = 1;

    // In each of these rows a number exists if and only if its element is not null.
    private final Player[] players = new Player[MOST_PLAYERS];
    private final Match[] matches = new Match[MOST_MATCHES];
    private final Season[] seasons = new Season[SEASONS];
    private final Skin[] skins = new Skin[MOST_SKINS];
    private final Region[] regions = new Region[REGIONS];

    private int playerCount;
    private int matchCount;
    private int skinCount;
    private int today;
    private Season current;

    public SkinLeague() {
        for (int i = 0; i < regions.length; i++) {
            regions[i] = new Region();
        }
        current = new Season(0);
        seasons[0] = current;
    }

    public int player() throws IllegalStateException {
        if (playerCount >= players.length) {
            throw new IllegalStateException("no more players");
        }
        int number = playerCount;
        players[number] = new Player(number);
        playerCount++;
        return number;
    }

    public int room(int region, int matches) throws IndexOutOfBoundsException, IllegalArgumentException {
        Region changed = regionAt(region);
        if (matches < 0 || matches > MOST_ROOM) {
            throw new IllegalArgumentException("no such room");
        }
        changed.roomADay = matches;
        return changed.matchesToday;
    }

    public int match(int winner, int loser, int region)
            throws IndexOutOfBoundsException, IllegalArgumentException, IllegalStateException {
        Player winning = playerAt(winner);
        Player losing = playerAt(loser);
        Region played = regionAt(region);
        if (winner == loser) {
            throw new IllegalArgumentException("winner and loser are the same");
        }
        if (matchCount >= matches.length || played.isFull()) {
            throw new IllegalStateException("no room for the match");
        }
        if (winning.isBanned(today) || losing.isBanned(today)) {
            throw new IllegalStateException("a player is banned");
        }
        int number = matchCount;
        Match told = new Match(winning, losing, current, today);
        matches[number] = told;
        matchCount++;
        played.matchesToday++;
        told.addPoints();
        return number;
    }

    public int end() throws IllegalStateException {
        int next = current.number + 1;
        if (next >= seasons.length) {
            throw new IllegalStateException("the last season is on");
        }
        int won = awardPrizes();
        current = new Season(next);
        seasons[next] = current;
        return won;
    }

    public boolean sell(int skin, int buyer, int price)
            throws IndexOutOfBoundsException, IllegalArgumentException, IllegalStateException {
        Skin sold = skinAt(skin);
        Player buying = playerAt(buyer);
        if (price < 0 || price > MOST_PRICE) {
            throw new IllegalArgumentException("no such price");
        }
        if (!mayDeal(sold.holder, buying) || sold.isSoldOften()) {
            throw new IllegalStateException("the skin can't be sold so now");
        }
        return sold.sellTo(buying, price);
    }

    public int lend(int skin, int borrower, int days)
            throws IndexOutOfBoundsException, IllegalArgumentException, IllegalStateException {
        Skin lent = skinAt(skin);
        Player borrowing = playerAt(borrower);
        if (days < 1 || days > MOST_LENT_DAYS) {
            throw new IllegalArgumentException("no such days of lending");
        }
        if (!mayDeal(lent.holder, borrowing)) {
            throw new IllegalStateException("the skin can't be lent so now");
        }
        lent.borrower = borrowing;
        lent.lastLentDay = today + days - 1;
        return lent.lastLentDay;
    }

    public int proof(int player, int since) throws IndexOutOfBoundsException, IllegalArgumentException {
        Player cheat = playerAt(player);
        if (since < 0 || since > today) {
            throw new IllegalArgumentException("no such day of a proof");
        }
        cheat.prove(since);
        findHeirsAnew();
        return countFallenMatches();
    }

    public int clear(int player) throws IndexOutOfBoundsException, IllegalStateException {
        Player cleared = playerAt(player);
        if (!cleared.isProven()) {
            throw new IllegalStateException("nothing is proven");
        }
        int since = cleared.cheatedSince;
        cleared.cheatedSince = NONE;
        findHeirsAnew();
        return since;
    }

    public int ban(int player, int days) throws IndexOutOfBoundsException, IllegalArgumentException {
        Player banned = playerAt(player);
        if (days < 0 || days > MOST_BANNED_DAYS) {
            throw new IllegalArgumentException("no such days of a ban");
        }
        banned.freeFrom = today + days;
        return banned.freeFrom;
    }

    public int pass(int days) throws IllegalArgumentException {
        if (days < 1 || days > MOST_PASSING_DAYS) {
            throw new IllegalArgumentException("no such days to pass");
        }
        today += days;
        for (int i = 0; i < regions.length; i++) {
            Region region = regions[i];
            if (region != null) {
                region.matchesToday = 0;
            }
        }
        return today;
    }

    // ---- asking

    public boolean stands(int match) throws IndexOutOfBoundsException {
        return matchAt(match).isStanding();
    }

    public int ranked(int season, int player, int what)
            throws IndexOutOfBoundsException, IllegalArgumentException {
        Season asked = seasonAt(season);
        Player ranking = playerAt(player);
        switch (what) {
            case 0:
                return asked.pointsOf(ranking.number);
            case 1:
                return asked.gamesOf(ranking.number);
            case 2:
                return asked.placeOf(ranking.number);
            default:
                throw new IllegalArgumentException("nothing such of a ranking");
        }
    }

    public int skinOf(int skin, int what) throws IndexOutOfBoundsException, IllegalArgumentException {
        Skin asked = skinAt(skin);
        switch (what) {
            case 0:
                return numberOf(asked.holder);
            case 1:
                return numberOf(asked.heir);
            case 2:
                return numberOf(asked.userOn(today));
            case 3:
                return asked.season.number;
            case 4:
                return asked.place;
            case 5:
                return asked.saleCount;
            case 6:
                return asked.isGood() ? 1 : 0;
            default:
                throw new IllegalArgumentException("nothing such of a skin");
        }
    }

    public int money(int player) throws IndexOutOfBoundsException {
        return playerAt(player).balance;
    }

    public char label(int skin, int place) throws IndexOutOfBoundsException {
        Skin labelled = skinAt(skin);
        if (place < 0) {
            throw new IndexOutOfBoundsException("no such place of a label");
        }
        StringBuilder text = new StringBuilder();
        labelled.writeLabel(text);
        return place < text.length() ? text.charAt(place) : (char) 0;
    }

    // ---- finding by number

    private Player findPlayer(int number) {
        return number >= 0 && number < players.length ? players[number] : null;
    }

    private Player playerAt(int number) {
        Player found = findPlayer(number);
        if (found == null) {
            throw new IndexOutOfBoundsException("no such player");
        }
        return found;
    }

    private Region regionAt(int number) {
        Region found = number >= 0 && number < regions.length ? regions[number] : null;
        if (found == null) {
            throw new IndexOutOfBoundsException("no such region");
        }
        return found;
    }

    private Match matchAt(int number) {
        Match found = number >= 0 && number < matches.length ? matches[number] : null;
        if (found == null) {
            throw new IndexOutOfBoundsException("no such match");
        }
        return found;
    }

    private Season seasonAt(int number) {
        Season found = number >= 0 && number < seasons.length ? seasons[number] : null;
        if (found == null) {
            throw new IndexOutOfBoundsException("no such season");
        }
        return found;
    }

    private Skin skinAt(int number) {
        Skin found = number >= 0 && number < skins.length ? skins[number] : null;
        if (found == null) {
            throw new IndexOutOfBoundsException("no such skin");
        }
        return found;
    }

    private static int numberOf(Player player) {
        return player == null ? NONE : player.number;
    }

    // ---- prizes, deals and proofs

    private int awardPrizes() {
        int won = 0;
        for (int place = 1; place <= PRIZES; place++) {
            Player heir = findPlayer(current.playerOn(place));
            if (heir != null && skinCount < skins.length) {
                skins[skinCount] = new Skin(skinCount, current, place, heir);
                skinCount++;
                won++;
            }
        }
        return won;
    }

    private boolean mayDeal(Player holder, Player other) {
        return holder != null && other != null && holder != other
                && !holder.isBanned(today) && !other.isBanned(today);
    }

    private void findHeirsAnew() {
        countPointsAnew();
        // Skins are numbered by season, then place: just the order in which heirs are to change.
        for (int i = 0; i < skins.length; i++) {
            Skin skin = skins[i];
            if (skin != null) {
                skin.passTo(findPlayer(skin.season.playerOn(skin.place)));
            }
        }
    }

    private void countPointsAnew() {
        for (int i = 0; i < seasons.length; i++) {
            Season season = seasons[i];
            if (season != null) {
                season.forgetPoints();
            }
        }
        for (int i = 0; i < matches.length; i++) {
            Match match = matches[i];
            if (match != null) {
                match.addPoints();
            }
        }
    }

    private int countFallenMatches() {
        int fallen = 0;
        for (int i = 0; i < matches.length; i++) {
            Match match = matches[i];
            if (match != null && !match.isStanding()) {
                fallen++;
            }
        }
        return fallen;
    }

    private static final class Region {
        private int roomADay = FIRST_ROOM;
        private int matchesToday;

        private boolean isFull() {
            return matchesToday >= roomADay;
        }
    }

    private static final class Player {
        private final int number;
        private int balance;
        private int cheatedSince = NONE;
        private int freeFrom;

        private Player(int number) {
            this.number = number;
        }

        private boolean isBanned(int day) {
            return day < freeFrom;
        }

        private boolean isProven() {
            return cheatedSince != NONE;
        }

        private boolean isProvenOn(int day) {
            return isProven() && cheatedSince <= day;
        }

        private void prove(int since) {
            if (!isProven() || since < cheatedSince) {
                cheatedSince = since;
            }
        }
    }

    private static final class Match {
        private final Player winner;
        private final Player loser;
        private final Season season;
        private final int day;

        private Match(Player winner, Player loser, Season season, int day) {
            this.winner = winner;
            this.loser = loser;
            this.season = season;
            this.day = day;
        }

        private boolean isStanding() {
            return !winner.isProvenOn(day);
        }

        private void addPoints() {
            if (isStanding()) {
                season.add(winner.number, POINTS_OF_WINNER);
                season.add(loser.number, POINTS_OF_LOSER);
            }
        }
    }

    /** A season with its ranking, by the numbers of the players. */
    private static final class Season {
        private final int number;
        private final int[] points = new int[MOST_PLAYERS];
        private final int[] games = new int[MOST_PLAYERS];

        private Season(int number) {
            this.number = number;
        }

        private void forgetPoints() {
            for (int i = 0; i < points.length; i++) {
                points[i] = 0;
            }
            for (int i = 0; i < games.length; i++) {
                games[i] = 0;
            }
        }

        private void add(int player, int gained) {
            if (player >= 0 && player < points.length && player < games.length) {
                points[player] += gained;
                games[player]++;
            }
        }

        private int pointsOf(int player) {
            return player >= 0 && player < points.length ? points[player] : 0;
        }

        private int gamesOf(int player) {
            return player >= 0 && player < games.length ? games[player] : 0;
        }

        private int placeOf(int player) {
            if (pointsOf(player) == 0) {
                return 0;
            }
            int place = 1;
            for (int other = 0; other < points.length; other++) {
                if (isAhead(other, player)) {
                    place++;
                }
            }
            return place;
        }

        private int playerOn(int place) {
            int found = firstBehind(NONE);
            for (int i = 1; i < place && found != NONE; i++) {
                found = firstBehind(found);
            }
            return found;
        }

        /** The first of the ranking behind a player, or of the whole ranking if that is NONE. */
        private int firstBehind(int leader) {
            int first = NONE;
            for (int player = 0; player < points.length; player++) {
                if (points[player] > 0 && (leader == NONE || isAhead(leader, player))
                        && (first == NONE || isAhead(player, first))) {
                    first = player;
                }
            }
            return first;
        }

        private boolean isAhead(int one, int other) {
            int morePoints = pointsOf(one) - pointsOf(other);
            if (morePoints != 0) {
                return morePoints > 0;
            }
            int moreGames = gamesOf(one) - gamesOf(other);
            if (moreGames != 0) {
                return moreGames < 0;
            }
            return one < other;
        }
    }

    private static final class Sale {
        private final Player seller;
        private final Player buyer;
        private final int price;

        private Sale(Player seller, Player buyer, int price) {
            this.seller = seller;
            this.buyer = buyer;
            this.price = price;
        }

        private boolean isInFaithNow() {
            return seller != null && buyer != null && !seller.isProven() && !buyer.isProven();
        }
    }

    private static final class Skin {
        private final int number;
        private final Season season;
        private final int place;
        private final Sale[] sales = new Sale[MOST_SALES];
        private int saleCount;
        private Sale firstInFaith;
        private Player heir;
        private Player holder;
        private Player borrower;
        private int lastLentDay;

        private Skin(int number, Season season, int place, Player heir) {
            this.number = number;
            this.season = season;
            this.place = place;
            this.heir = heir;
            this.holder = heir;
        }

        private boolean isGood() {
            return firstInFaith != null;
        }

        private boolean isSoldOften() {
            return saleCount >= sales.length;
        }

        private Player userOn(int day) {
            return borrower != null && day <= lastLentDay ? borrower : holder;
        }

        /** Answers whether the sale is in faith. */
        private boolean sellTo(Player buyer, int price) {
            if (isSoldOften()) {
                return false;
            }
            Sale sale = new Sale(holder, buyer, price);
            boolean inFaith = sale.isInFaithNow();
            // Kept now, because what is proven or cleared later does not change the faith of this sale.
            if (inFaith && firstInFaith == null) {
                firstInFaith = sale;
            }
            sales[saleCount] = sale;
            saleCount++;
            pay(buyer, holder, price);
            holder = buyer;
            borrower = null;
            return inFaith;
        }

        private void passTo(Player newHeir) {
            if (newHeir == heir) {
                return;
            }
            if (firstInFaith != null) {
                pay(heir, newHeir, firstInFaith.price);
            } else {
                undoSales();
                holder = newHeir;
                borrower = null;
            }
            heir = newHeir;
        }

        private void undoSales() {
            for (int i = sales.length - 1; i >= 0; i--) {
                Sale sale = sales[i];
                if (sale != null) {
                    pay(sale.seller, sale.buyer, sale.price);
                    sales[i] = null;
                }
            }
            saleCount = 0;
        }

        private static void pay(Player payer, Player payee, int price) {
            if (payer != null && payee != null) {
                payer.balance -= price;
                payee.balance += price;
            }
        }

        private void writeLabel(StringBuilder text) {
            text.append(number);
            text.append(':');
            text.append(season.number);
            text.append('/');
            text.append(place);
            if (holder != null) {
                text.append('@');
                text.append(holder.number);
            }
        }
    }
}
