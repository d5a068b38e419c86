import java.math.BigInteger;
import java.util.ArrayList;
import java.util.Collections;
import java.util.HashSet;
import java.util.List;
import java.util.NoSuchElementException;

/**
 * A second house, told as plainly as the document tells it and by other means than ShoeHouse: lists that are gone
 * through anew, nothing that is kept up to date. ModelTest compares the answers of both.
 */
final class Model {
    private final List<Player> players = new ArrayList<>();
    private final int[] trays = new int[3];
    private final int[] begins = new int[3];
    private final int[] moved = new int[3];
    private int vault = 100000;
    private int day;

    private final List<Integer> shoe = new ArrayList<>();
    private final List<Integer> seen = new ArrayList<>();
    private final List<Integer> dealer = new ArrayList<>();
    private final List<Spot> ahead = new ArrayList<>();
    private final List<Spot> spots = new ArrayList<>();
    private final int[] weights = new int[11];
    private String rules = "";
    private int decks;
    private int tenths;
    private boolean isRound;

    private final List<Wager> wagers = new ArrayList<>();
    private final String[] reels = {"44444444", "44444444", "44444444"};
    private final int[] times = new int[5];
    private Player puller;
    private int pulled;
    private boolean isTilted;
    private boolean isPotDue;
    private int pot;
    private int bound = 500;

    private final List<Ticket> tickets = new ArrayList<>();
    private String draw = "";
    private int pool;

    private static final class Player {
        private int money;
        private int chips;
        private int limit = 5000;
        private int waiting = -1;
        private int barred;
        private int staked;
        private int brought;
        private int reports;
        private final List<Integer> high = new ArrayList<>();
        private final List<Integer> low = new ArrayList<>();
        private final List<int[]> prizes = new ArrayList<>();
    }

    /** A stake at a seat, then a hand: it plays, waits, stood, was settled, or is gone. */
    private static final class Spot {
        private final int seat;
        private final int number;
        private final Player player;
        private int stake;
        private final List<Integer> cards = new ArrayList<>();
        private boolean isOfSplit;
        private boolean isStood;
        private boolean isSettled;

        private Spot(int seat, int number, Player player, int stake) {
            this.seat = seat;
            this.number = number;
            this.player = player;
            this.stake = stake;
        }

        private boolean plays() {
            return !isStood && !isSettled;
        }
    }

    private record Wager(Player player, char kind, int number, int chips) {
    }

    private record Ticket(Player player, String digits, boolean[] isVoid) {
    }

    // ---- what is refused

    private static void index(boolean isWrong) {
        if (isWrong) {
            throw new IndexOutOfBoundsException();
        }
    }

    private static void argument(boolean isWrong) {
        if (isWrong) {
            throw new IllegalArgumentException();
        }
    }

    private static void unsupported(boolean isWrong) {
        if (isWrong) {
            throw new UnsupportedOperationException();
        }
    }

    private static void state(boolean isWrong) {
        if (isWrong) {
            throw new IllegalStateException();
        }
    }

    private static void none(boolean isWrong) {
        if (isWrong) {
            throw new NoSuchElementException();
        }
    }

    private static void arithmetic(boolean isWrong) {
        if (isWrong) {
            throw new ArithmeticException();
        }
    }

    private Player player(int guest) {
        index(guest < 0 || guest >= players.size());
        return players.get(guest);
    }

    private boolean mayNotStake(Player player, int chips) {
        return day < player.barred || player.chips < chips || player.staked + chips > player.limit;
    }

    private static void stake(Player player, int chips) {
        player.chips -= chips;
        player.staked += chips;
    }

    private void get(int table, int chips) {
        trays[table] += chips;
    }

    private void pay(int table, int chips) {
        int lack = Math.max(0, chips - trays[table]);
        vault -= lack;
        moved[table] += lack;
        trays[table] += lack - chips;
    }

    // ---- guests, chips

    int guest(int money) {
        argument(money < 0 || money > 99999);
        state(players.size() == 8);
        Player player = new Player();
        player.money = money;
        players.add(player);
        return players.size() - 1;
    }

    int buyIn(int guest, int coins) {
        Player player = player(guest);
        argument(coins < 1 || coins > 9999);
        unsupported(player.money < coins || vault < coins);
        player.money -= coins;
        player.chips += coins;
        vault -= coins;
        boolean wasReported = player.brought >= 1000;
        player.brought += coins;
        if (!wasReported && player.brought >= 1000) {
            player.reports++;
        }
        return player.chips;
    }

    int cashOut(int guest, int chips) {
        Player player = player(guest);
        argument(chips < 1 || chips > 99999);
        unsupported(player.chips < chips);
        player.chips -= chips;
        vault += chips;
        player.money += chips;
        return player.money;
    }

    int limit(int guest, int chips) {
        Player player = player(guest);
        argument(chips < 0 || chips > 5000);
        player.waiting = -1;
        if (chips > player.limit) {
            player.waiting = chips;
        } else {
            player.limit = chips;
        }
        return player.limit;
    }

    int bar(int guest, int until) {
        Player player = player(guest);
        argument(until <= day || until > 999 || until < player.barred);
        player.barred = until;
        int back = 0;
        for (Spot spot : new ArrayList<>(ahead)) {
            if (spot.player == player) {
                back += spot.stake;
                ahead.remove(spot);
            }
        }
        for (Spot spot : new ArrayList<>(spots)) {
            if (isRound && spot.player == player && !spot.isSettled) {
                back += spot.stake;
                spots.remove(spot);
            }
        }
        for (Wager wager : new ArrayList<>(wagers)) {
            if (wager.player == player) {
                back += wager.chips;
                wagers.remove(wager);
            }
        }
        if (puller == player) {
            back += pulled;
            puller = null;
        }
        for (Ticket ticket : tickets) {
            ticket.isVoid[0] |= ticket.player == player;
        }
        for (int[] prize : player.prizes) {
            pool += prize[1];
        }
        player.prizes.clear();
        player.chips += back;
        goOn();
        return back;
    }

    int pass(int days) {
        argument(days < 1 || days > 30);
        state(isRound || puller != null && !isTilted);
        day += days;
        for (Player player : players) {
            player.staked = 0;
            player.brought = 0;
            player.limit = player.waiting >= 0 ? player.waiting : player.limit;
            player.waiting = -1;
            for (int[] prize : new ArrayList<>(player.prizes)) {
                if (day > prize[0] + 3) {
                    pool += prize[1];
                    player.prizes.remove(prize);
                }
            }
        }
        return day;
    }

    int fill(int table, int chips) {
        index(table < 0 || table > 2);
        argument(chips < 1 || chips > 9999);
        unsupported(vault < chips);
        vault -= chips;
        moved[table] += chips;
        trays[table] += chips;
        return trays[table];
    }

    int credit(int table, int chips) {
        index(table < 0 || table > 2);
        argument(chips < 1 || chips > 9999);
        unsupported(trays[table] < chips);
        vault += chips;
        moved[table] -= chips;
        trays[table] -= chips;
        return trays[table];
    }

    int shift() {
        int sum = 0;
        for (int table = 0; table < 3; table++) {
            sum += win(table);
            begins[table] = trays[table];
            moved[table] = 0;
        }
        return sum;
    }

    int win(int table) {
        index(table < 0 || table > 2);
        return trays[table] - begins[table] - moved[table];
    }

    // ---- the shoe, rounds

    boolean rule(char letter, boolean is) {
        argument("dusn".indexOf(letter) < 0);
        state(isRound);
        boolean was = holds(letter);
        rules = rules.replace("" + letter, "") + (is ? letter : "");
        return was;
    }

    private boolean holds(char letter) {
        return rules.indexOf(letter) >= 0;
    }

    int lay(int told) {
        argument(told < 1 || told > 2);
        state(isRound);
        decks = told;
        shoe.clear();
        for (int rank = 1; rank <= 10; rank++) {
            for (int i = 0; i < all(rank); i++) {
                shoe.add(rank);
            }
        }
        seen.clear();
        spots.clear();
        dealer.clear();
        return shoe.size();
    }

    private int all(int rank) {
        return decks * (rank == 10 ? 16 : 4);
    }

    int cut(int cards) {
        argument(cards < 1 || cards >= shoe.size());
        state(isRound);
        Collections.rotate(shoe, -cards);
        return shoe.get(0);
    }

    int riffle(boolean isOut) {
        unsupported(shoe.isEmpty());
        state(isRound);
        int first = isOut ? (shoe.size() + 1) / 2 : shoe.size() / 2;
        List<Integer> one = new ArrayList<>(shoe.subList(0, first));
        List<Integer> other = new ArrayList<>(shoe.subList(first, shoe.size()));
        shoe.clear();
        boolean isOne = isOut;
        while (!one.isEmpty() || !other.isEmpty()) {
            shoe.add((isOne ? one : other).remove(0));
            isOne = !isOne;
        }
        return shoe.get(0);
    }

    int bet(int seat, int guest, int chips) {
        index(seat < 0 || seat > 2);
        Player player = player(guest);
        argument(chips < 2 || chips > 1000);
        boolean isTaken = false;
        for (Spot spot : isRound ? spots : ahead) {
            isTaken |= spot.seat == seat;
        }
        unsupported(isTaken || mayNotStake(player, chips));
        state(isRound);
        boolean isHigh = unseen() > 0 && trueCount() >= 2;
        (isHigh ? player.high : player.low).add(chips);
        stake(player, chips);
        ahead.add(new Spot(seat, 0, player, chips));
        return player.chips;
    }

    int deal() {
        unsupported(ahead.isEmpty() && !isRound || shoe.size() < 30);
        state(isRound);
        spots.clear();
        dealer.clear();
        for (int seat = 0; seat < 3; seat++) {
            for (Spot spot : ahead) {
                if (spot.seat == seat) {
                    spots.add(spot);
                }
            }
        }
        ahead.clear();
        for (int turn = 0; turn < 2; turn++) {
            for (Spot spot : spots) {
                give(spot);
            }
            dealer.add(shoe.remove(0));
        }
        seen.add(dealer.get(0));
        isRound = true;
        for (Spot spot : spots) {
            spot.isStood = value(spot.cards) == 21 || value(dealer) == 21;
        }
        int rank = dealer.get(0);
        goOn();
        return rank;
    }

    private int give(Spot spot) {
        int rank = shoe.remove(0);
        seen.add(rank);
        spot.cards.add(rank);
        return value(spot.cards);
    }

    private static int hard(List<Integer> cards) {
        int sum = 0;
        for (int rank : cards) {
            sum += rank;
        }
        return sum;
    }

    private static int value(List<Integer> cards) {
        int hard = hard(cards);
        return cards.contains(1) && hard + 10 <= 21 ? hard + 10 : hard;
    }

    private Spot playing() {
        for (Spot spot : spots) {
            if (isRound && spot.plays()) {
                return spot;
            }
        }
        return null;
    }

    private Spot inTurn(int seat) {
        index(seat < 0 || seat > 2);
        state(!isRound);
        Spot spot = playing();
        unsupported(spot.seat != seat);
        return spot;
    }

    private int take(Spot spot) {
        int value = give(spot);
        if (value > 21) {
            spot.isSettled = true;
            get(0, spot.stake);
        }
        spot.isStood |= value == 21;
        return value;
    }

    int hit(int seat) {
        Spot spot = inTurn(seat);
        unsupported(shoe.isEmpty());
        int value = take(spot);
        goOn();
        return value;
    }

    int stand(int seat) {
        inTurn(seat).isStood = true;
        goOn();
        return isRound ? turn() : -1;
    }

    int twice(int seat) {
        Spot spot = inTurn(seat);
        unsupported(spot.cards.size() > 2 || spot.isOfSplit && !holds('d') || shoe.isEmpty() || mayNotStake(spot.player, spot.stake));
        stake(spot.player, spot.stake);
        spot.stake *= 2;
        int value = take(spot);
        spot.isStood = true;
        goOn();
        return value;
    }

    int split(int seat) {
        Spot spot = inTurn(seat);
        unsupported(spot.isOfSplit || spot.cards.size() != 2 || !spot.cards.get(0).equals(spot.cards.get(1)));
        unsupported(shoe.size() < 2 || mayNotStake(spot.player, spot.stake));
        stake(spot.player, spot.stake);
        Spot second = new Spot(seat, 1, spot.player, spot.stake);
        second.isOfSplit = true;
        spot.isOfSplit = true;
        second.cards.add(spot.cards.remove(1));
        spots.add(spots.indexOf(spot) + 1, second);
        int value = take(spot);
        take(second);
        goOn();
        return value;
    }

    int surrender(int seat) {
        Spot spot = inTurn(seat);
        unsupported(!holds('u') || spot.isOfSplit || spot.cards.size() > 2);
        int back = spot.stake / 2;
        spot.player.chips += back;
        get(0, spot.stake - back);
        spot.isSettled = true;
        goOn();
        return back;
    }

    private boolean isNatural(Spot spot) {
        return !spot.isOfSplit && spot.cards.size() == 2 && value(spot.cards) == 21;
    }

    /** The round is over as soon as no hand plays any more. */
    private void goOn() {
        if (!isRound || playing() != null) {
            return;
        }
        seen.add(dealer.get(1));
        boolean isNeeded = false;
        for (Spot spot : spots) {
            isNeeded |= !spot.isSettled && !isNatural(spot);
        }
        while (isNeeded && !shoe.isEmpty() && draws()) {
            int rank = shoe.remove(0);
            dealer.add(rank);
            seen.add(rank);
        }
        for (Spot spot : spots) {
            if (!spot.isSettled) {
                settle(spot);
            }
        }
        isRound = false;
    }

    private boolean draws() {
        int value = value(dealer);
        return value < 17 || value == 17 && value > hard(dealer) && holds('s');
    }

    private void settle(Spot spot) {
        boolean isDealersNatural = dealer.size() == 2 && value(dealer) == 21;
        int won = 0;
        if (isNatural(spot)) {
            int inTenths = isDealersNatural ? 0 : spot.stake * (holds('n') ? 12 : 15);
            won = inTenths / 10;
            tenths += inTenths % 10;
        } else if (value(dealer) > 21 || value(spot.cards) > value(dealer)) {
            won = spot.stake;
        } else if (value(spot.cards) < value(dealer)) {
            get(0, spot.stake);
            return;
        }
        pay(0, won);
        spot.player.chips += spot.stake + won;
    }

    int cardAt(int seat, int hand, int place) {
        for (Spot spot : spots) {
            if (spot.seat == seat && spot.number == hand) {
                none(place < 0 || place >= spot.cards.size());
                return spot.cards.get(place);
            }
        }
        throw new IndexOutOfBoundsException();
    }

    int dealerAt(int place) {
        none(place < 0 || place >= dealer.size() || isRound && place == 1);
        return dealer.get(place);
    }

    int turn() {
        state(!isRound);
        return playing().seat;
    }

    int left(int rank) {
        argument(rank < 1 || rank > 10);
        return all(rank) - Collections.frequency(seen, rank);
    }

    private int unseen() {
        return 52 * decks - seen.size();
    }

    private BigInteger[] bust(int value) {
        argument(value < 4 || value > 21);
        arithmetic(unseen() == 0);
        int over = 0;
        for (int rank = 1; rank <= 10; rank++) {
            over += value + rank > 21 ? left(rank) : 0;
        }
        return lowest(BigInteger.valueOf(over), BigInteger.valueOf(unseen()));
    }

    private static BigInteger[] lowest(BigInteger over, BigInteger under) {
        BigInteger shared = over.gcd(under);
        return new BigInteger[] {over.divide(shared), under.divide(shared)};
    }

    long bustOver(int value) {
        return bust(value)[0].longValueExact();
    }

    long bustUnder(int value) {
        return bust(value)[1].longValueExact();
    }

    double dealerEnds(int value) {
        argument(value < 17 || value > 22);
        state(!isRound);
        int[] left = new int[11];
        for (int rank = 1; rank <= 10; rank++) {
            left[rank] = left(rank);
        }
        List<Integer> cards = new ArrayList<>();
        cards.add(dealer.get(0));
        return chance(value, cards, left, unseen());
    }

    private double chance(int end, List<Integer> cards, int[] left, int all) {
        int value = value(cards);
        if (value > 17 || value == 17 && !(value > hard(cards) && holds('s'))) {
            return end == value || end == 22 && value > 22 ? 1.0 : 0.0;
        }
        double sum = 0.0;
        for (int rank = 1; rank <= 10; rank++) {
            if (left[rank] > 0) {
                double part = (double) left[rank] / (double) all;
                left[rank]--;
                cards.add(rank);
                sum += part * chance(end, cards, left, all - 1);
                cards.remove(cards.size() - 1);
                left[rank]++;
            }
        }
        return sum;
    }

    int weigh(int rank, int weight) {
        argument(rank < 1 || rank > 10 || weight < -3 || weight > 3);
        int before = weights[rank];
        weights[rank] = weight;
        return before;
    }

    int count() {
        int sum = 0;
        for (int rank : seen) {
            sum += weights[rank];
        }
        return sum;
    }

    int trueCount() {
        arithmetic(unseen() == 0);
        return count() * 52 / unseen();
    }

    boolean isSuspected(int guest) {
        Player player = player(guest);
        if (player.high.size() < 3 || player.low.size() < 3) {
            return false;
        }
        long high = hard(player.high);
        long low = hard(player.low);
        return high * player.low.size() >= 3 * low * player.high.size();
    }

    int broken() {
        return tenths;
    }

    // ---- the wheel, the machine

    int wager(int guest, char kind, int number, int chips) {
        Player player = player(guest);
        argument("nrbd".indexOf(kind) < 0 || kind == 'n' && (number < 0 || number > 36) || kind == 'd' && (number < 0 || number > 2));
        argument(chips < 1 || chips > 500);
        unsupported(mayNotStake(player, chips));
        state(wagers.size() == 10);
        stake(player, chips);
        wagers.add(new Wager(player, kind, number, chips));
        return wagers.size();
    }

    int spin(int number) {
        argument(number < 0 || number > 36);
        String red = " 1 3 5 7 9 12 14 16 18 19 21 23 25 27 30 32 34 36 ";
        boolean isRed = red.contains(" " + number + " ");
        int paid = 0;
        for (Wager wager : wagers) {
            int won = 0;
            switch (wager.kind) {
                case 'n': won = wager.number == number ? 35 : 0; break;
                case 'r': won = isRed ? 1 : 0; break;
                case 'b': won = number > 0 && !isRed ? 1 : 0; break;
                default: won = number > 0 && (number - 1) / 12 == wager.number ? 2 : 0; break;
            }
            if (won == 0) {
                get(1, wager.chips);
            } else {
                pay(1, won * wager.chips);
                wager.player.chips += (won + 1) * wager.chips;
                paid += (won + 1) * wager.chips;
            }
        }
        wagers.clear();
        return paid;
    }

    private boolean isSpinning() {
        return puller != null && !isTilted;
    }

    /** The digits with zeros ahead, empty if there are more, or one is too great. */
    private static String digits(int number, int places, char most) {
        if (number < 0) {
            return "";
        }
        String text = "" + number;
        while (text.length() < places) {
            text = "0" + text;
        }
        for (char digit : text.toCharArray()) {
            if (digit > most) {
                return "";
            }
        }
        return text.length() > places ? "" : text;
    }

    int stops(int reel, int symbols) {
        index(reel < 0 || reel > 2);
        String told = digits(symbols, 8, '4');
        argument(told.isEmpty());
        state(isSpinning());
        int changed = 0;
        for (int stop = 0; stop < 8; stop++) {
            changed += told.charAt(stop) == reels[reel].charAt(stop) ? 0 : 1;
        }
        reels[reel] = told;
        return changed;
    }

    int pays(int symbol, int told) {
        argument(symbol < 0 || symbol > 4 || told < 0 || told > 200);
        state(isSpinning());
        int before = times[symbol];
        times[symbol] = told;
        return before;
    }

    int bound(int chips) {
        argument(chips < 1 || chips > 5000);
        state(isSpinning());
        int before = bound;
        bound = chips;
        return before;
    }

    int pull(int guest, int chips) {
        Player player = player(guest);
        argument(chips < 1 || chips > 100);
        unsupported(mayNotStake(player, chips));
        state(puller != null);
        stake(player, chips);
        puller = player;
        pulled = chips;
        isTilted = false;
        isPotDue = pot >= bound;
        return player.chips;
    }

    int stop(int stops) {
        String told = digits(stops, 3, '7');
        argument(told.isEmpty());
        state(!isSpinning());
        char[] shown = new char[3];
        for (int reel = 0; reel < 3; reel++) {
            shown[reel] = reels[reel].charAt(told.charAt(reel) - '0');
        }
        boolean isAlike = shown[0] == shown[1] && shown[1] == shown[2];
        pot += pulled / 10;
        get(2, pulled - pulled / 10);
        int paid = isAlike ? times[shown[0] - '0'] * pulled : 0;
        pay(2, paid);
        if (isPotDue || isAlike && shown[0] == '0') {
            paid += pot;
            pot = 0;
        }
        puller.chips += paid;
        puller = null;
        return paid;
    }

    int tilt() {
        state(!isSpinning());
        isTilted = true;
        return pulled;
    }

    int recover() {
        state(puller == null || !isTilted);
        puller.chips += pulled;
        int chips = puller.chips;
        puller = null;
        return chips;
    }

    int pot() {
        return pot;
    }

    private BigInteger[] returned() {
        int sum = 0;
        for (char one : reels[0].toCharArray()) {
            for (char two : reels[1].toCharArray()) {
                for (char three : reels[2].toCharArray()) {
                    sum += one == two && two == three ? times[one - '0'] : 0;
                }
            }
        }
        return lowest(BigInteger.valueOf(sum), BigInteger.valueOf(512));
    }

    long returnOver() {
        return returned()[0].longValueExact();
    }

    long returnUnder() {
        return returned()[1].longValueExact();
    }

    // ---- lotteries

    private static String unlike(int numbers) {
        String told = digits(numbers, 3, '9');
        HashSet<Character> set = new HashSet<>();
        for (char digit : told.toCharArray()) {
            set.add(digit);
        }
        argument(set.size() != 3);
        return told;
    }

    int ticket(int guest, int numbers) {
        Player player = player(guest);
        String told = unlike(numbers);
        unsupported(mayNotStake(player, 2));
        state(tickets.size() == 12 || !draw.isEmpty());
        stake(player, 2);
        pool += 2;
        tickets.add(new Ticket(player, told, new boolean[1]));
        return tickets.size();
    }

    private List<Ticket> right(int numbers) {
        List<Ticket> right = new ArrayList<>();
        for (Ticket ticket : tickets) {
            int same = 0;
            for (char digit : ticket.digits.toCharArray()) {
                same += draw.indexOf(digit) >= 0 ? 1 : 0;
            }
            if (same == numbers && !ticket.isVoid[0]) {
                right.add(ticket);
            }
        }
        return right;
    }

    int draw(int numbers) {
        draw = unlike(numbers);
        return right(3).size();
    }

    int confirm() {
        state(draw.isEmpty());
        int paid = 0;
        int[] parts = {pool * 2 / 10, pool * 6 / 10};
        for (int numbers = 2; numbers <= 3; numbers++) {
            List<Ticket> winners = right(numbers);
            for (Ticket ticket : winners) {
                int prize = parts[numbers - 2] / winners.size();
                ticket.player.prizes.add(new int[] {day, prize});
                paid += prize;
            }
        }
        pool -= paid;
        tickets.clear();
        draw = "";
        return paid;
    }

    int claim(int guest) {
        Player player = player(guest);
        int sum = 0;
        for (int[] prize : player.prizes) {
            sum += prize[1];
        }
        none(sum == 0);
        player.prizes.clear();
        player.chips += sum;
        return sum;
    }

    int pool() {
        return pool;
    }

    // ---- what is asked

    int day() {
        return day;
    }

    int money(int guest) {
        return player(guest).money;
    }

    int chips(int guest) {
        return player(guest).chips;
    }

    boolean isBarred(int guest) {
        return player(guest).barred > day;
    }

    int staked(int guest) {
        return player(guest).staked;
    }

    int reports(int guest) {
        return player(guest).reports;
    }

    int tray(int table) {
        index(table < 0 || table > 2);
        return trays[table];
    }

    int vault() {
        return vault;
    }

    /** The chance at each number of chips is 18 by 37 of the one above and 19 by 37 of the one below. */
    private static BigInteger[] ruin(int chips, int goal) {
        argument(goal < 1 || goal > 14 || chips < 0 || chips > goal);
        BigInteger[] parts = new BigInteger[goal + 1];
        parts[0] = BigInteger.ZERO;
        parts[1] = BigInteger.valueOf(18).pow(goal);
        for (int at = 1; at < goal; at++) {
            BigInteger above = parts[at].multiply(BigInteger.valueOf(37)).subtract(parts[at - 1].multiply(BigInteger.valueOf(19)));
            parts[at + 1] = above.divide(BigInteger.valueOf(18));
        }
        return lowest(parts[chips], parts[goal]);
    }

    long ruinOver(int chips, int goal) {
        return ruin(chips, goal)[0].longValueExact();
    }

    long ruinUnder(int chips, int goal) {
        return ruin(chips, goal)[1].longValueExact();
    }

    // ---- figures

    long checksum() {
        BigInteger sum = BigInteger.valueOf(7);
        List<Integer> parts = new ArrayList<>();
        for (Player player : players) {
            parts.add(player.money);
            parts.add(player.chips);
        }
        for (int tray : trays) {
            parts.add(tray);
        }
        Collections.addAll(parts, vault, pot, pool);
        for (int part : parts) {
            sum = sum.multiply(BigInteger.valueOf(31)).add(BigInteger.valueOf(part));
        }
        return sum.longValue();
    }

    int vaultBits() {
        return Float.floatToIntBits((float) vault / (float) 100000);
    }

    float barredShare() {
        arithmetic(players.isEmpty());
        int barred = 0;
        for (int guest = 0; guest < players.size(); guest++) {
            barred += isBarred(guest) ? 1 : 0;
        }
        return (float) barred / (float) players.size();
    }

    double meanChips() {
        arithmetic(players.isEmpty());
        int sum = 0;
        for (Player player : players) {
            sum += player.chips;
        }
        return (double) sum / (double) players.size();
    }

    boolean isSound() {
        return true;
    }
}
