import java.util.Arrays;
import java.util.NoSuchElementException;

/** A house of chance kept honest: chips and money are neither made nor lost, and no barred guest's play stands. */
public final class ShoeHouse {
    private static final int ALL_CHIPS = 100000;
    private static final int MOST_GUESTS = 8;
    private static final int TABLES = 3;
    private static final int CARD_TABLE = 0;
    private static final int WHEEL_TABLE = 1;
    private static final int MACHINE_TABLE = 2;
    private static final int RANKS = 10;
    private static final int LAST_DAY = 999;
    private static final int FEWEST_TO_DEAL = 30;
    private static final int HIGH_COUNT = 2;

    private final Guest[] guests = new Guest[MOST_GUESTS];
    private final Tray[] trays = new Tray[TABLES];
    private final Vault vault = new Vault();
    private final Shoe shoe = new Shoe();
    private final CardTable table;
    private final DealerOdds odds = new DealerOdds();
    private final Wheel wheel;
    private final Machine machine;
    private final Lottery lottery = new Lottery();
    private int guestCount;
    private int today;

    public ShoeHouse() {
        for (int i = 0; i < guests.length; i++) {
            guests[i] = new Guest();
        }
        for (int i = 0; i < trays.length; i++) {
            trays[i] = new Tray(vault);
        }
        table = new CardTable(shoe, trays[CARD_TABLE]);
        wheel = new Wheel(trays[WHEEL_TABLE]);
        machine = new Machine(trays[MACHINE_TABLE]);
    }

    // ---- guests, chips

    public int guest(int money) throws IllegalArgumentException, IllegalStateException {
        needRange(money, 0, 99999);
        if (guestCount < 0 || guestCount >= guests.length) {
            throw new IllegalStateException("there are as many guests as there can be");
        }
        guests[guestCount].money = money;
        guestCount++;
        return guestCount - 1;
    }

    public int buyIn(int guest, int coins) throws IndexOutOfBoundsException, IllegalArgumentException, UnsupportedOperationException {
        Guest buyer = guestAt(guest);
        needRange(coins, 1, 9999);
        if (buyer.money < coins || vault.chips < coins) {
            throw new UnsupportedOperationException("not so much money, or not so many chips in the vault");
        }
        vault.chips -= coins;
        buyer.bringMoney(coins);
        return buyer.chips;
    }

    public int cashOut(int guest, int chips) throws IndexOutOfBoundsException, IllegalArgumentException, UnsupportedOperationException {
        Guest seller = guestAt(guest);
        needRange(chips, 1, 99999);
        if (seller.chips < chips) {
            throw new UnsupportedOperationException("not so many chips");
        }
        seller.chips -= chips;
        seller.money += chips;
        vault.chips += chips;
        return seller.money;
    }

    public int limit(int guest, int chips) throws IndexOutOfBoundsException, IllegalArgumentException {
        Guest player = guestAt(guest);
        needRange(chips, 0, 5000);
        player.tellLimit(chips);
        return player.limit;
    }

    public int bar(int guest, int until) throws IndexOutOfBoundsException, IllegalArgumentException {
        Guest player = guestAt(guest);
        if (until <= today || until > LAST_DAY || until < player.barredUntil) {
            throw new IllegalArgumentException("no day to be barred until");
        }
        player.barredUntil = until;
        int back = table.takeAway(player) + wheel.takeAway(player) + machine.takeAway(player);
        player.chips += back;
        lottery.takeAway(player);
        table.finishIfNobodyPlays();
        return back;
    }

    public int pass(int days) throws IllegalArgumentException, IllegalStateException {
        needRange(days, 1, 30);
        if (table.isOn || machine.isSpinning()) {
            throw new IllegalStateException("a round or a spin goes on");
        }
        for (int i = 0; i < days; i++) {
            today++;
            for (Guest each : guests) {
                each.beginDay();
                lottery.pool += each.dropPrizesOf(today);
            }
        }
        return today;
    }

    public int fill(int table, int chips) throws IndexOutOfBoundsException, IllegalArgumentException, UnsupportedOperationException {
        Tray tray = trayAt(table);
        needRange(chips, 1, 9999);
        if (vault.chips < chips) {
            throw new UnsupportedOperationException("the vault has not so many chips");
        }
        tray.takeFromVault(chips);
        return tray.chips;
    }

    public int credit(int table, int chips) throws IndexOutOfBoundsException, IllegalArgumentException, UnsupportedOperationException {
        Tray tray = trayAt(table);
        needRange(chips, 1, 9999);
        if (tray.chips < chips) {
            throw new UnsupportedOperationException("the tray has not so many chips");
        }
        tray.bringToVault(chips);
        return tray.chips;
    }

    public int shift() {
        int sum = 0;
        for (Tray tray : trays) {
            sum += tray.winOfShift();
            tray.beginShift();
        }
        return sum;
    }

    public int win(int table) throws IndexOutOfBoundsException {
        return trayAt(table).winOfShift();
    }

    // ---- the shoe, rounds

    public boolean rule(char letter, boolean is) throws IllegalArgumentException, IllegalStateException {
        if (letter != 'd' && letter != 'u' && letter != 's' && letter != 'n') {
            throw new IllegalArgumentException("no such letter");
        }
        needNoRound();
        return table.tellRule(letter, is);
    }

    public int lay(int decks) throws IllegalArgumentException, IllegalStateException {
        needRange(decks, 1, 2);
        needNoRound();
        shoe.layDecks(decks);
        table.forgetCards();
        return shoe.size();
    }

    public int cut(int cards) throws IllegalArgumentException, IllegalStateException {
        if (cards < 1 || cards >= shoe.size()) {
            throw new IllegalArgumentException("not between the first and the last card");
        }
        needNoRound();
        shoe.bringBehind(cards);
        return shoe.rankAt(0);
    }

    public int riffle(boolean isOut) throws UnsupportedOperationException, IllegalStateException {
        if (shoe.size() == 0) {
            throw new UnsupportedOperationException("the shoe has no cards");
        }
        needNoRound();
        shoe.mixHalves(isOut);
        return shoe.rankAt(0);
    }

    public int bet(int seat, int guest, int chips) throws IndexOutOfBoundsException, IllegalArgumentException, UnsupportedOperationException, IllegalStateException {
        Seat place = seatAt(seat);
        Guest player = guestAt(guest);
        needRange(chips, 2, 1000);
        if (place.hasStake()) {
            throw new UnsupportedOperationException("the seat has a stake");
        }
        needStake(player, chips);
        needNoRound();
        player.noteBet(chips, shoe.countByDeck() >= HIGH_COUNT);
        player.putStake(chips);
        place.take(player, chips);
        return player.chips;
    }

    public int deal() throws UnsupportedOperationException, IllegalStateException {
        if (!table.hasStakes() || shoe.size() < FEWEST_TO_DEAL) {
            throw new UnsupportedOperationException("no stake, or too few cards");
        }
        needNoRound();
        int seen = table.dealRound();
        table.finishIfNobodyPlays();
        return seen;
    }

    public int hit(int seat) throws IndexOutOfBoundsException, IllegalStateException, UnsupportedOperationException {
        Hand hand = handInTurn(seat);
        needCards(1);
        int value = table.giveCard(hand);
        table.finishIfNobodyPlays();
        return value;
    }

    public int stand(int seat) throws IndexOutOfBoundsException, IllegalStateException, UnsupportedOperationException {
        Hand hand = handInTurn(seat);
        hand.isPlaying = false;
        table.finishIfNobodyPlays();
        return table.seatInTurn();
    }

    public int twice(int seat) throws IndexOutOfBoundsException, IllegalStateException, UnsupportedOperationException {
        Hand hand = handInTurn(seat);
        Seat place = seatAt(seat);
        if (hand.size != 2 || place.isSplit && !table.doublesSplits) {
            throw new UnsupportedOperationException("this hand is not doubled");
        }
        needCards(1);
        Guest player = playerAt(place, hand.stake);
        player.putStake(hand.stake);
        hand.stake += hand.stake;
        int value = table.giveCard(hand);
        hand.isPlaying = false;
        table.finishIfNobodyPlays();
        return value;
    }

    public int split(int seat) throws IndexOutOfBoundsException, IllegalStateException, UnsupportedOperationException {
        Hand hand = handInTurn(seat);
        Seat place = seatAt(seat);
        if (place.isSplit || !hand.isPair()) {
            throw new UnsupportedOperationException("this hand is not split");
        }
        needCards(2);
        Guest player = playerAt(place, hand.stake);
        player.putStake(hand.stake);
        place.part();
        int value = table.giveCard(place.first);
        table.giveCard(place.second);
        table.finishIfNobodyPlays();
        return value;
    }

    public int surrender(int seat) throws IndexOutOfBoundsException, IllegalStateException, UnsupportedOperationException {
        Hand hand = handInTurn(seat);
        Seat place = seatAt(seat);
        if (!table.surrenders || place.isSplit || hand.size != 2) {
            throw new UnsupportedOperationException("this hand is not surrendered");
        }
        int back = table.giveUp(place, hand);
        table.finishIfNobodyPlays();
        return back;
    }

    public int cardAt(int seat, int hand, int place) throws IndexOutOfBoundsException, NoSuchElementException {
        Hand asked = seatAt(seat).handAt(hand);
        if (asked == null) {
            throw new IndexOutOfBoundsException("no such hand");
        }
        int rank = asked.rankAt(place);
        if (rank == 0) {
            throw new NoSuchElementException("no such card");
        }
        return rank;
    }

    public int dealerAt(int place) throws NoSuchElementException {
        int rank = table.isOn && place != 0 ? 0 : table.dealer.rankAt(place);
        if (rank == 0) {
            throw new NoSuchElementException("no such card, or it is hidden");
        }
        return rank;
    }

    public int turn() throws IllegalStateException {
        needRound();
        return table.seatInTurn();
    }

    public int left(int rank) throws IllegalArgumentException {
        needRange(rank, 1, RANKS);
        return shoe.unseenOf(rank);
    }

    public long bustOver(int value) throws IllegalArgumentException, ArithmeticException {
        needRange(value, 4, 21);
        needUnseen();
        return lowestOver(shoe.unseenAbove(21 - value), shoe.unseen());
    }

    public long bustUnder(int value) throws IllegalArgumentException, ArithmeticException {
        needRange(value, 4, 21);
        needUnseen();
        return lowestUnder(shoe.unseenAbove(21 - value), shoe.unseen());
    }

    public double dealerEnds(int value) throws IllegalArgumentException, IllegalStateException {
        needRange(value, 17, 22);
        needRound();
        return odds.chanceOf(value, table);
    }

    public int weigh(int rank, int weight) throws IllegalArgumentException {
        needRange(rank, 1, RANKS);
        needRange(weight, -3, 3);
        return shoe.tellWeight(rank, weight);
    }

    public int count() {
        return shoe.countSeen();
    }

    public int trueCount() throws ArithmeticException {
        needUnseen();
        return shoe.countByDeck();
    }

    public boolean isSuspected(int guest) throws IndexOutOfBoundsException {
        return guestAt(guest).isBettingByCount();
    }

    public int broken() {
        return table.brokenTenths;
    }

    // ---- the wheel, the machine

    public int wager(int guest, char kind, int number, int chips) throws IndexOutOfBoundsException, IllegalArgumentException, UnsupportedOperationException, IllegalStateException {
        Guest player = guestAt(guest);
        if (!Wheel.isWager(kind, number)) {
            throw new IllegalArgumentException("no such wager");
        }
        needRange(chips, 1, 500);
        needStake(player, chips);
        if (wheel.isFull()) {
            throw new IllegalStateException("there are as many wagers as there can be");
        }
        player.putStake(chips);
        wheel.add(player, kind, number, chips);
        return wheel.size;
    }

    public int spin(int number) throws IllegalArgumentException {
        needRange(number, 0, 36);
        return wheel.settleAll(number);
    }

    public int stops(int reel, int symbols) throws IndexOutOfBoundsException, IllegalArgumentException, IllegalStateException {
        if (reel < 0 || reel >= Machine.REELS) {
            throw new IndexOutOfBoundsException("no such reel");
        }
        if (!Machine.areSymbols(symbols)) {
            throw new IllegalArgumentException("not eight symbols");
        }
        needNoSpin();
        return machine.tellSymbols(reel, symbols);
    }

    public int pays(int symbol, int times) throws IllegalArgumentException, IllegalStateException {
        needRange(symbol, 0, Machine.SYMBOLS - 1);
        needRange(times, 0, 200);
        needNoSpin();
        return machine.tellTimes(symbol, times);
    }

    public int bound(int chips) throws IllegalArgumentException, IllegalStateException {
        needRange(chips, 1, 5000);
        needNoSpin();
        int before = machine.bound;
        machine.bound = chips;
        return before;
    }

    public int pull(int guest, int chips) throws IndexOutOfBoundsException, IllegalArgumentException, UnsupportedOperationException, IllegalStateException {
        Guest player = guestAt(guest);
        needRange(chips, 1, 100);
        needStake(player, chips);
        if (machine.player != null) {
            throw new IllegalStateException("a spin goes on, or is to be recovered");
        }
        player.putStake(chips);
        machine.begin(player, chips);
        return player.chips;
    }

    public int stop(int stops) throws IllegalArgumentException, IllegalStateException {
        if (!Machine.areStops(stops)) {
            throw new IllegalArgumentException("not three stops");
        }
        needSpin();
        return machine.settleAt(stops);
    }

    public int tilt() throws IllegalStateException {
        needSpin();
        machine.isTilted = true;
        return machine.stake;
    }

    public int recover() throws IllegalStateException {
        Guest player = machine.player;
        if (player == null || !machine.isTilted) {
            throw new IllegalStateException("no spin is to be recovered");
        }
        player.chips += machine.takeAway(player);
        return player.chips;
    }

    public int pot() {
        return machine.pot;
    }

    public long returnOver() {
        return lowestOver(machine.paidByAllStops(), Machine.ALL_STOPS);
    }

    public long returnUnder() {
        return lowestUnder(machine.paidByAllStops(), Machine.ALL_STOPS);
    }

    // ---- lotteries

    public int ticket(int guest, int numbers) throws IndexOutOfBoundsException, IllegalArgumentException, UnsupportedOperationException, IllegalStateException {
        Guest buyer = guestAt(guest);
        needThreeNumbers(numbers);
        needStake(buyer, Lottery.PRICE);
        if (lottery.isSoldOut() || lottery.isDrawn()) {
            throw new IllegalStateException("no ticket is sold now");
        }
        buyer.putStake(Lottery.PRICE);
        lottery.sell(buyer, Lottery.setOf(numbers));
        return lottery.sold;
    }

    public int draw(int numbers) throws IllegalArgumentException {
        needThreeNumbers(numbers);
        lottery.drawn = Lottery.setOf(numbers);
        return lottery.ticketsWithRight(3);
    }

    public int confirm() throws IllegalStateException {
        if (!lottery.isDrawn()) {
            throw new IllegalStateException("no draw is to be confirmed");
        }
        return lottery.giveOut(today);
    }

    public int claim(int guest) throws IndexOutOfBoundsException, NoSuchElementException {
        Guest winner = guestAt(guest);
        int prizes = winner.allPrizes();
        if (prizes == 0) {
            throw new NoSuchElementException("no prizes");
        }
        winner.dropAllPrizes();
        winner.chips += prizes;
        return prizes;
    }

    public int pool() {
        return lottery.pool;
    }

    // ---- what is asked

    public int day() {
        return today;
    }

    public int money(int guest) throws IndexOutOfBoundsException {
        return guestAt(guest).money;
    }

    public int chips(int guest) throws IndexOutOfBoundsException {
        return guestAt(guest).chips;
    }

    public boolean isBarred(int guest) throws IndexOutOfBoundsException {
        return guestAt(guest).isBarredOn(today);
    }

    public int staked(int guest) throws IndexOutOfBoundsException {
        return guestAt(guest).staked;
    }

    public int reports(int guest) throws IndexOutOfBoundsException {
        return guestAt(guest).reports;
    }

    public int tray(int table) throws IndexOutOfBoundsException {
        return trayAt(table).chips;
    }

    public int vault() {
        return vault.chips;
    }

    public long ruinOver(int chips, int goal) throws IllegalArgumentException {
        needRuin(chips, goal);
        return lowestOver(ruinPart(chips, goal), power(19, goal) - power(18, goal));
    }

    public long ruinUnder(int chips, int goal) throws IllegalArgumentException {
        needRuin(chips, goal);
        return lowestUnder(ruinPart(chips, goal), power(19, goal) - power(18, goal));
    }

    // ---- figures

    public long checksum() {
        long sum = 7;
        for (int i = 0; i < guestCount && i < guests.length; i++) {
            sum = 31 * sum + guests[i].money;
            sum = 31 * sum + guests[i].chips;
        }
        for (Tray tray : trays) {
            sum = 31 * sum + tray.chips;
        }
        sum = 31 * sum + vault.chips;
        sum = 31 * sum + machine.pot;
        return 31 * sum + lottery.pool;
    }

    public int vaultBits() {
        return bitsOf((float) vault.chips / (float) ALL_CHIPS);
    }

    public float barredShare() throws ArithmeticException {
        needGuests();
        int barred = 0;
        for (int i = 0; i < guestCount && i < guests.length; i++) {
            if (guests[i].isBarredOn(today)) {
                barred++;
            }
        }
        return (float) barred / (float) guestCount;
    }

    public double meanChips() throws ArithmeticException {
        needGuests();
        return (double) chipsOfGuests() / (double) guestCount;
    }

    public boolean isSound() {
        return areAllChipsHere() && shoe.isWhole() && isNothingOfBarred() && areChancesSound();
    }

    // ---- what a call needs

    private Guest guestAt(int guest) {
        if (guest < 0 || guest >= guestCount || guest >= guests.length) {
            throw new IndexOutOfBoundsException("no such guest");
        }
        return guests[guest];
    }

    private Tray trayAt(int table) {
        if (table < 0 || table >= trays.length) {
            throw new IndexOutOfBoundsException("no such table");
        }
        return trays[table];
    }

    private Seat seatAt(int seat) {
        if (seat < 0 || seat >= table.seats.length) {
            throw new IndexOutOfBoundsException("no such seat");
        }
        return table.seats[seat];
    }

    private Hand handInTurn(int seat) {
        Seat place = seatAt(seat);
        needRound();
        Hand hand = place.handThatPlays();
        if (hand == null || table.seatInTurn() != seat) {
            throw new UnsupportedOperationException("it is not the turn of this seat");
        }
        return hand;
    }

    private Guest playerAt(Seat place, int chips) {
        Guest player = place.guest;
        if (player == null || !player.mayStake(chips, today)) {
            throw new UnsupportedOperationException("the guest may not stake that");
        }
        return player;
    }

    private void needStake(Guest player, int chips) {
        if (!player.mayStake(chips, today)) {
            throw new UnsupportedOperationException("the guest may not stake that");
        }
    }

    private void needCards(int cards) {
        if (shoe.size() < cards) {
            throw new UnsupportedOperationException("the shoe has not so many cards");
        }
    }

    private void needUnseen() {
        if (shoe.unseen() == 0) {
            throw new ArithmeticException("no cards are left");
        }
    }

    private void needRound() {
        if (!table.isOn) {
            throw new IllegalStateException("no round goes on");
        }
    }

    private void needNoRound() {
        if (table.isOn) {
            throw new IllegalStateException("a round goes on");
        }
    }

    private void needSpin() {
        if (!machine.isSpinning()) {
            throw new IllegalStateException("no spin goes on");
        }
    }

    private void needNoSpin() {
        if (machine.isSpinning()) {
            throw new IllegalStateException("a spin goes on");
        }
    }

    private void needGuests() {
        if (guestCount == 0) {
            throw new ArithmeticException("there are no guests");
        }
    }

    private static void needThreeNumbers(int numbers) {
        if (Lottery.setOf(numbers) == 0) {
            throw new IllegalArgumentException("not three unlike numbers");
        }
    }

    private static void needRuin(int chips, int goal) {
        needRange(goal, 1, 14);
        needRange(chips, 0, goal);
    }

    private static void needRange(int number, int least, int most) {
        if (number < least || number > most) {
            throw new IllegalArgumentException("a number is out of range");
        }
    }

    // ---- what is sound

    private int chipsOfGuests() {
        int sum = 0;
        for (int i = 0; i < guestCount && i < guests.length; i++) {
            sum += guests[i].chips;
        }
        return sum;
    }

    private boolean areAllChipsHere() {
        int sum = chipsOfGuests() + vault.chips + machine.pot + lottery.pool;
        for (Tray tray : trays) {
            sum += tray.chips;
        }
        for (Guest each : guests) {
            sum += each.allPrizes() + stakesOf(each);
        }
        return sum == ALL_CHIPS;
    }

    private int stakesOf(Guest player) {
        return table.stakesOf(player) + wheel.stakesOf(player) + machine.stakeOf(player);
    }

    private boolean isNothingOfBarred() {
        for (Guest each : guests) {
            if (each.isBarredOn(today) && stakesOf(each) != 0) {
                return false;
            }
        }
        return true;
    }

    private boolean areChancesSound() {
        double sum = 0.0;
        for (int value = 17; value <= 22 && table.isOn; value++) {
            sum += odds.chanceOf(value, table);
        }
        return sum <= 1.000001;
    }

    // ---- numbers

    private static long lowestOver(long over, long under) {
        long shared = sharedDivisor(over, under);
        return shared == 0 ? over : over / shared;
    }

    private static long lowestUnder(long over, long under) {
        long shared = sharedDivisor(over, under);
        return shared == 0 ? under : under / shared;
    }

    private static long sharedDivisor(long one, long other) {
        long divided = one;
        long divisor = other;
        for (int i = 0; i < 200 && divisor != 0; i++) {
            long rest = divided % divisor;
            divided = divisor;
            divisor = rest;
        }
        return divided;
    }

    private static long power(int base, int times) {
        long result = 1;
        for (int i = 0; i < times; i++) {
            result *= base;
        }
        return result;
    }

    // Red falls on 18 of 37 numbers, so the chance is (19^n - 18^n) * 18^(goal - n) by 19^goal - 18^goal.
    private static long ruinPart(int chips, int goal) {
        return (power(19, chips) - power(18, chips)) * power(18, goal - chips);
    }

    private static int bitsOf(float number) {
        if (number == 0.0f) {
            return 0;
        }
        float part = number < 0.0f ? -number : number;
        int exponent = 127;
        for (int i = 0; i < 200 && part >= 2.0f; i++) {
            part = part / 2.0f;
            exponent++;
        }
        for (int i = 0; i < 200 && part < 1.0f; i++) {
            part = part * 2.0f;
            exponent--;
        }
        int fraction = (int) ((part - 1.0f) * 8388608.0f);
        int sign = number < 0.0f ? 1 : 0;
        return (sign << 31) | (exponent << 23) | fraction;
    }

    /** What a guest has, may stake, and did. */
    private static final class Guest {
        // Prizes live four days, so four places, by the day modulo 4, keep all that can be claimed.
        private static final int PRIZE_DAYS = 4;

        private final int[] prizes = new int[PRIZE_DAYS];
        private int money;
        private int chips;
        private int limit = 5000;
        private int limitTomorrow = 5000;
        private int staked;
        private int barredUntil;
        private int brought;
        private int reports;
        private int highBets;
        private int highChips;
        private int otherBets;
        private int otherChips;

        boolean isBarredOn(int day) {
            return day < barredUntil;
        }

        boolean mayStake(int wanted, int day) {
            return !isBarredOn(day) && wanted <= chips && staked + wanted <= limit;
        }

        void putStake(int put) {
            chips -= put;
            staked += put;
        }

        void bringMoney(int coins) {
            money -= coins;
            chips += coins;
            if (brought < 1000 && brought + coins >= 1000) {
                reports++;
            }
            brought += coins;
        }

        void tellLimit(int told) {
            limitTomorrow = told;
            if (told < limit) {
                limit = told;
            }
        }

        void beginDay() {
            limit = limitTomorrow;
            staked = 0;
            brought = 0;
        }

        void noteBet(int put, boolean isHigh) {
            if (isHigh) {
                highBets++;
                highChips += put;
            } else {
                otherBets++;
                otherChips += put;
            }
        }

        boolean isBettingByCount() {
            // The means are compared by products, so that nothing is rounded.
            return highBets >= 3 && otherBets >= 3
                && (long) highChips * otherBets >= 3L * otherChips * highBets;
        }

        void addPrize(int day, int won) {
            int place = Math.floorMod(day, PRIZE_DAYS);
            if (place >= 0 && place < prizes.length) {
                prizes[place] += won;
            }
        }

        int dropPrizesOf(int day) {
            int place = Math.floorMod(day, PRIZE_DAYS);
            if (place < 0 || place >= prizes.length) {
                return 0;
            }
            int dropped = prizes[place];
            prizes[place] = 0;
            return dropped;
        }

        int allPrizes() {
            int sum = 0;
            for (int prize : prizes) {
                sum += prize;
            }
            return sum;
        }

        void dropAllPrizes() {
            Arrays.fill(prizes, 0);
        }
    }

    /** The chips that no guest, table, pot, pool or prize has. */
    private static final class Vault {
        private int chips = ALL_CHIPS;
    }

    /** The chips of the house at one table, and what moved them in this shift. */
    private static final class Tray {
        private final Vault vault;
        private int chips;
        private int chipsAtBegin;
        private int fills;
        private int credits;

        Tray(Vault vault) {
            this.vault = vault;
        }

        void takeFromVault(int taken) {
            vault.chips -= taken;
            chips += taken;
            fills += taken;
        }

        void bringToVault(int brought) {
            chips -= brought;
            vault.chips += brought;
            credits += brought;
        }

        void collect(int got) {
            chips += got;
        }

        void payOut(int paid) {
            if (paid > chips) {
                takeFromVault(paid - chips);
            }
            chips -= paid;
        }

        int winOfShift() {
            return chips - chipsAtBegin - fills + credits;
        }

        void beginShift() {
            chipsAtBegin = chips;
            fills = 0;
            credits = 0;
        }
    }

    /** The cards that are not dealt, and what was seen of the others. */
    private static final class Shoe {
        private static final int MOST_CARDS = 104;

        private final int[] cards = new int[MOST_CARDS];
        private final int[] mixed = new int[MOST_CARDS];
        private final int[] seen = new int[RANKS + 1];
        private final int[] weights = new int[RANKS + 1];
        private int front;
        private int end;
        private int decks;
        private int hidden;

        private static int cardsInDeck(int rank) {
            return rank == RANKS ? 16 : 4;
        }

        int size() {
            return end - front;
        }

        int rankAt(int place) {
            int index = front + place;
            return place >= 0 && index >= 0 && index < end && index < cards.length ? cards[index] : 0;
        }

        void layDecks(int told) {
            decks = told;
            front = 0;
            end = 0;
            hidden = 0;
            Arrays.fill(seen, 0);
            for (int rank = 1; rank <= RANKS; rank++) {
                for (int i = 0; i < told * cardsInDeck(rank) && end >= 0 && end < cards.length; i++) {
                    cards[end] = rank;
                    end++;
                }
            }
        }

        void bringBehind(int first) {
            int size = size();
            for (int i = 0; i < size && i < mixed.length; i++) {
                int place = i + first;
                mixed[i] = rankAt(place < size ? place : place - size);
            }
            layMixed(size);
        }

        void mixHalves(boolean isFirstAhead) {
            int size = size();
            int half = isFirstAhead ? (size + 1) / 2 : size / 2;
            for (int i = 0; i < size && i < mixed.length; i++) {
                boolean isOfFirst = (i % 2 == 0) == isFirstAhead;
                mixed[i] = rankAt(isOfFirst ? i / 2 : half + i / 2);
            }
            layMixed(size);
        }

        private void layMixed(int size) {
            for (int i = 0; i < size && i < mixed.length && i < cards.length; i++) {
                cards[i] = mixed[i];
            }
            front = 0;
            end = size;
        }

        private int takeCard() {
            int rank = rankAt(0);
            if (rank != 0) {
                front++;
            }
            return rank;
        }

        private void see(int rank) {
            if (rank > 0 && rank < seen.length) {
                seen[rank]++;
            }
        }

        int takeSeen() {
            int rank = takeCard();
            see(rank);
            return rank;
        }

        int takeHidden() {
            hidden = takeCard();
            return hidden;
        }

        void showHidden() {
            see(hidden);
            hidden = 0;
        }

        int unseenOf(int rank) {
            return rank > 0 && rank < seen.length ? decks * cardsInDeck(rank) - seen[rank] : 0;
        }

        int unseenAbove(int rank) {
            int sum = 0;
            for (int higher = rank + 1; higher <= RANKS; higher++) {
                sum += unseenOf(higher);
            }
            return sum;
        }

        int unseen() {
            return unseenAbove(0);
        }

        int tellWeight(int rank, int weight) {
            if (rank < 0 || rank >= weights.length) {
                return 0;
            }
            int before = weights[rank];
            weights[rank] = weight;
            return before;
        }

        int countSeen() {
            int sum = 0;
            for (int rank = 1; rank < seen.length && rank < weights.length; rank++) {
                sum += seen[rank] * weights[rank];
            }
            return sum;
        }

        /** The true count, 0 if there is no card that was not seen. */
        int countByDeck() {
            int unseen = unseen();
            return unseen == 0 ? 0 : countSeen() * 52 / unseen;
        }

        boolean isWhole() {
            for (int rank = 1; rank <= RANKS; rank++) {
                int here = hidden == rank ? 1 : 0;
                for (int i = 0; i < size(); i++) {
                    if (rankAt(i) == rank) {
                        here++;
                    }
                }
                if (here != unseenOf(rank)) {
                    return false;
                }
            }
            return true;
        }
    }

    /** The cards of a seat or the dealer, and the stake on them. */
    private static final class Hand {
        // Eight aces and seven twos are 22, so no hand has more cards than that.
        private static final int MOST_CARDS = 22;

        private final int[] cards = new int[MOST_CARDS];
        private int size;
        private int sum;
        private boolean hasAce;
        private int stake;
        private boolean isPlaying;
        private boolean isSettled;

        void add(int rank) {
            if (size >= 0 && size < cards.length) {
                cards[size] = rank;
                size++;
                sum += rank;
                hasAce = hasAce || rank == 1;
            }
        }

        void forgetCards() {
            size = 0;
            sum = 0;
            hasAce = false;
        }

        int rankAt(int place) {
            return place >= 0 && place < size && place < cards.length ? cards[place] : 0;
        }

        int value() {
            return hasAce && sum <= 11 ? sum + 10 : sum;
        }

        boolean isSoft() {
            return value() > sum;
        }

        boolean isPair() {
            return size == 2 && rankAt(0) == rankAt(1);
        }

        boolean isNatural() {
            return size == 2 && value() == 21;
        }

        int settle() {
            int settled = stake;
            stake = 0;
            isPlaying = false;
            isSettled = true;
            return settled;
        }

        /** Gives a stake that is not settled back; what was dealt for it is no hand any more. */
        int takeBack(boolean isDealt) {
            int back = stake;
            if (isDealt && back > 0) {
                forgetCards();
            }
            stake = 0;
            isPlaying = false;
            return back;
        }
    }

    /** A place at the cards, with one hand or, split, two. */
    private static final class Seat {
        private final Hand first = new Hand();
        private final Hand second = new Hand();
        private Guest guest;
        private boolean isSplit;

        boolean hasStake() {
            return stakes() > 0 || first.isSettled || second.isSettled;
        }

        int stakes() {
            return first.stake + second.stake;
        }

        void take(Guest player, int chips) {
            guest = player;
            first.stake = chips;
        }

        /** A hand that was dealt or split off and not taken away, also in the last round; null if there is none. */
        Hand handAt(int number) {
            Hand hand = null;
            if (number == 0) {
                hand = first;
            } else if (number == 1) {
                hand = second;
            }
            // Each hand has cards from its deal or split on till it is taken away, so one without cards is no hand.
            return hand != null && hand.size > 0 ? hand : null;
        }

        Hand handThatPlays() {
            if (first.isPlaying) {
                return first;
            }
            return second.isPlaying ? second : null;
        }

        void part() {
            int rank = first.rankAt(0);
            isSplit = true;
            first.forgetCards();
            first.add(rank);
            second.add(rank);
            second.stake = first.stake;
            second.isPlaying = true;
        }

        boolean isNatural() {
            return !isSplit && first.isNatural();
        }

        boolean needsDealer() {
            return stakes() > 0 && !isNatural();
        }

        void forgetCards() {
            first.forgetCards();
            second.forgetCards();
            isSplit = false;
        }

        void forgetStakes() {
            first.isSettled = false;
            second.isSettled = false;
            guest = null;
        }

        int takeAway(boolean isDealt) {
            guest = null;
            return first.takeBack(isDealt) + second.takeBack(isDealt);
        }
    }

    /** The seats and the dealer: a round from the deal till all is settled. */
    private static final class CardTable {
        private static final int SEATS = 3;

        private final Shoe shoe;
        private final Tray tray;
        private final Seat[] seats = new Seat[SEATS];
        private final Hand dealer = new Hand();
        private boolean isOn;
        private boolean doublesSplits;
        private boolean surrenders;
        private boolean drawsAtSoft;
        private boolean paysLess;
        private int brokenTenths;

        CardTable(Shoe shoe, Tray tray) {
            this.shoe = shoe;
            this.tray = tray;
            for (int i = 0; i < seats.length; i++) {
                seats[i] = new Seat();
            }
        }

        boolean tellRule(char letter, boolean is) {
            boolean before;
            if (letter == 'd') {
                before = doublesSplits;
                doublesSplits = is;
            } else if (letter == 'u') {
                before = surrenders;
                surrenders = is;
            } else if (letter == 's') {
                before = drawsAtSoft;
                drawsAtSoft = is;
            } else {
                before = paysLess;
                paysLess = is;
            }
            return before;
        }

        boolean hasStakes() {
            for (Seat seat : seats) {
                if (seat.hasStake()) {
                    return true;
                }
            }
            return false;
        }

        int stakesOf(Guest player) {
            int sum = 0;
            for (Seat seat : seats) {
                if (seat.guest == player) {
                    sum += seat.stakes();
                }
            }
            return sum;
        }

        int takeAway(Guest player) {
            int back = 0;
            for (Seat seat : seats) {
                if (seat.guest == player) {
                    // Between rounds the cards of a seat are of the last round, not of the stake that waits.
                    back += seat.takeAway(isOn);
                }
            }
            return back;
        }

        void forgetCards() {
            for (Seat seat : seats) {
                seat.forgetCards();
            }
            dealer.forgetCards();
        }

        int seatInTurn() {
            for (int i = 0; i < seats.length; i++) {
                if (seats[i].handThatPlays() != null) {
                    return i;
                }
            }
            return -1;
        }

        int dealRound() {
            forgetCards();
            isOn = true;
            dealToSeats();
            dealer.add(shoe.takeSeen());
            dealToSeats();
            dealer.add(shoe.takeHidden());
            for (Seat seat : seats) {
                seat.first.isPlaying = seat.stakes() > 0 && !seat.isNatural() && !dealer.isNatural();
            }
            return dealer.rankAt(0);
        }

        private void dealToSeats() {
            for (Seat seat : seats) {
                if (seat.stakes() > 0) {
                    seat.first.add(shoe.takeSeen());
                }
            }
        }

        int giveCard(Hand hand) {
            hand.add(shoe.takeSeen());
            int value = hand.value();
            if (value > 21) {
                tray.collect(hand.settle());
            } else if (value == 21) {
                hand.isPlaying = false;
            }
            return value;
        }

        int giveUp(Seat seat, Hand hand) {
            int stake = hand.settle();
            int back = stake / 2;
            tray.collect(stake - back);
            if (seat.guest != null) {
                seat.guest.chips += back;
            }
            return back;
        }

        void finishIfNobodyPlays() {
            if (!isOn || seatInTurn() >= 0) {
                return;
            }
            shoe.showHidden();
            drawForDealer();
            for (Seat seat : seats) {
                settle(seat, seat.first);
                settle(seat, seat.second);
                seat.forgetStakes();
            }
            isOn = false;
        }

        private void drawForDealer() {
            boolean isNeeded = false;
            for (Seat seat : seats) {
                isNeeded = isNeeded || seat.needsDealer();
            }
            for (int i = 0; i < Shoe.MOST_CARDS && isNeeded && drawsAgain() && shoe.size() > 0; i++) {
                dealer.add(shoe.takeSeen());
            }
        }

        private boolean drawsAgain() {
            int value = dealer.value();
            return value < 17 || value == 17 && drawsAtSoft && dealer.isSoft();
        }

        private void settle(Seat seat, Hand hand) {
            Guest player = seat.guest;
            if (player == null || hand.stake == 0) {
                return;
            }
            int gain = gainOf(seat, hand);
            int stake = hand.settle();
            if (gain < 0) {
                tray.collect(stake);
            } else {
                tray.payOut(gain);
                player.chips += stake + gain;
            }
        }

        /** What the house pays for a hand, 0 if the stake only comes back, -1 if it is lost. */
        private int gainOf(Seat seat, Hand hand) {
            if (seat.isNatural()) {
                return dealer.isNatural() ? 0 : payForNatural(hand.stake);
            }
            int value = hand.value();
            int against = dealer.value();
            if (against > 21 || value > against) {
                return hand.stake;
            }
            return value == against ? 0 : -1;
        }

        private int payForNatural(int stake) {
            if (paysLess) {
                brokenTenths += stake * 6 % 5 * 2;
                return stake * 6 / 5;
            }
            brokenTenths += stake * 3 % 2 * 5;
            return stake * 3 / 2;
        }
    }

    /** The chances of the dealer's ends by what is left. */
    private static final class DealerOdds {
        // The dealer draws below 18, and each card adds 1 at least.
        private static final int MOST_CARDS = 18;

        private final int[] left = new int[RANKS + 1];
        private int end;
        private boolean drawsAtSoft;

        double chanceOf(int value, CardTable table) {
            int all = 0;
            for (int rank = 1; rank < left.length; rank++) {
                left[rank] = table.shoe.unseenOf(rank);
                all += left[rank];
            }
            end = value;
            drawsAtSoft = table.drawsAtSoft;
            int rank = table.dealer.rankAt(0);
            return chanceFrom(this, rank, rank == 1, all, 1);
        }

        private static double chanceFrom(DealerOdds odds, int hard, boolean hasAce, int all, int cards) {
            boolean isSoft = hasAce && hard <= 11;
            int value = isSoft ? hard + 10 : hard;
            if (value > 17 || value == 17 && !(isSoft && odds.drawsAtSoft)) {
                return Math.min(value, 22) == odds.end ? 1.0 : 0.0;
            }
            if (all < 1 || cards > MOST_CARDS) {
                return 0.0;
            }
            double sum = 0.0;
            for (int rank = 1; rank < odds.left.length; rank++) {
                int number = odds.left[rank];
                if (number > 0) {
                    odds.left[rank] = number - 1;
                    sum += (double) number / (double) all
                        * chanceFrom(odds, hard + rank, hasAce || rank == 1, all - 1, cards + 1);
                    odds.left[rank] = number;
                }
            }
            return sum;
        }
    }

    /** The wagers that wait for the wheel. */
    private static final class Wheel {
        private static final int MOST_WAGERS = 10;

        private final Tray tray;
        private final Guest[] players = new Guest[MOST_WAGERS];
        private final char[] kinds = new char[MOST_WAGERS];
        private final int[] numbers = new int[MOST_WAGERS];
        private final int[] stakes = new int[MOST_WAGERS];
        private int size;

        Wheel(Tray tray) {
            this.tray = tray;
        }

        static boolean isWager(char kind, int number) {
            if (kind == 'n') {
                return number >= 0 && number <= 36;
            }
            if (kind == 'd') {
                return number >= 0 && number <= 2;
            }
            return kind == 'r' || kind == 'b';
        }

        private static boolean isRed(int number) {
            boolean isOdd = number % 2 != 0;
            boolean isOddRed = number >= 1 && number <= 10 || number >= 19 && number <= 28;
            return number != 0 && isOdd == isOddRed;
        }

        private static int timesPaid(char kind, int number, int fallen) {
            if (kind == 'n') {
                return number == fallen ? 35 : 0;
            }
            if (kind == 'd') {
                return fallen > 12 * number && fallen <= 12 * number + 12 ? 2 : 0;
            }
            return fallen != 0 && isRed(fallen) == (kind == 'r') ? 1 : 0;
        }

        boolean isFull() {
            return size >= MOST_WAGERS;
        }

        void add(Guest player, char kind, int number, int chips) {
            if (size >= 0 && size < MOST_WAGERS) {
                players[size] = player;
                kinds[size] = kind;
                numbers[size] = number;
                stakes[size] = chips;
                size++;
            }
        }

        int settleAll(int fallen) {
            int paid = 0;
            for (int i = 0; i < size && i < MOST_WAGERS; i++) {
                int times = timesPaid(kinds[i], numbers[i], fallen);
                Guest player = players[i];
                if (times == 0 || player == null) {
                    tray.collect(stakes[i]);
                } else {
                    tray.payOut(times * stakes[i]);
                    player.chips += (times + 1) * stakes[i];
                    paid += (times + 1) * stakes[i];
                }
            }
            size = 0;
            return paid;
        }

        int stakesOf(Guest player) {
            int sum = 0;
            for (int i = 0; i < size && i < MOST_WAGERS; i++) {
                if (players[i] == player) {
                    sum += stakes[i];
                }
            }
            return sum;
        }

        int takeAway(Guest player) {
            int back = stakesOf(player);
            int all = size;
            size = 0;
            for (int i = 0; i < all && i < MOST_WAGERS; i++) {
                Guest other = players[i];
                if (other != player) {
                    add(other, kinds[i], numbers[i], stakes[i]);
                }
            }
            return back;
        }
    }

    /** The reels, the pot, and the spin that goes on or was tilted. */
    private static final class Machine {
        private static final int REELS = 3;
        private static final int STOPS = 8;
        private static final int SYMBOLS = 5;
        private static final int ALL_STOPS = STOPS * STOPS * STOPS;

        private final Tray tray;
        private final int[] symbols = new int[REELS * STOPS];
        private final int[] times = new int[SYMBOLS];
        private int pot;
        private int bound = 500;
        private Guest player;
        private int stake;
        private boolean isTilted;
        private boolean hasPot;

        Machine(Tray tray) {
            this.tray = tray;
            Arrays.fill(symbols, SYMBOLS - 1);
        }

        static boolean areSymbols(int digits) {
            return areDigits(digits, STOPS, SYMBOLS - 1);
        }

        static boolean areStops(int digits) {
            return areDigits(digits, REELS, STOPS - 1);
        }

        private static boolean areDigits(int digits, int places, int most) {
            int rest = digits;
            for (int i = 0; i < places; i++) {
                if (rest < 0 || rest % 10 > most) {
                    return false;
                }
                rest /= 10;
            }
            return rest == 0;
        }

        boolean isSpinning() {
            return player != null && !isTilted;
        }

        int stakeOf(Guest guest) {
            return player == guest ? stake : 0;
        }

        private int symbolAt(int reel, int stop) {
            int place = reel * STOPS + stop;
            return place >= 0 && place < symbols.length ? symbols[place] : 0;
        }

        private int timesOf(int symbol) {
            return symbol >= 0 && symbol < times.length ? times[symbol] : 0;
        }

        int tellSymbols(int reel, int digits) {
            int changed = 0;
            int rest = digits;
            for (int stop = STOPS - 1; stop >= 0; stop--) {
                int place = reel * STOPS + stop;
                if (place >= 0 && place < symbols.length && symbols[place] != rest % 10) {
                    symbols[place] = rest % 10;
                    changed++;
                }
                rest /= 10;
            }
            return changed;
        }

        int tellTimes(int symbol, int told) {
            int before = timesOf(symbol);
            if (symbol >= 0 && symbol < times.length) {
                times[symbol] = told;
            }
            return before;
        }

        void begin(Guest guest, int chips) {
            player = guest;
            stake = chips;
            isTilted = false;
            hasPot = pot >= bound;
        }

        int settleAt(int stops) {
            int symbol = symbolAt(0, stops / 100);
            boolean isAlike = symbol == symbolAt(1, stops / 10 % 10) && symbol == symbolAt(2, stops % 10);
            int tenth = stake / 10;
            pot += tenth;
            tray.collect(stake - tenth);
            int paid = isAlike ? timesOf(symbol) * stake : 0;
            tray.payOut(paid);
            if (hasPot || isAlike && symbol == 0) {
                paid += pot;
                pot = 0;
            }
            if (player != null) {
                player.chips += paid;
            }
            player = null;
            return paid;
        }

        int takeAway(Guest guest) {
            int back = stakeOf(guest);
            if (player == guest) {
                player = null;
            }
            return back;
        }

        /** What all stops pay together, each once, for a stake of one chip. */
        int paidByAllStops() {
            int sum = 0;
            for (int symbol = 0; symbol < SYMBOLS; symbol++) {
                int ways = 1;
                for (int reel = 0; reel < REELS; reel++) {
                    ways *= stopsWith(symbol, reel);
                }
                sum += ways * timesOf(symbol);
            }
            return sum;
        }

        private int stopsWith(int symbol, int reel) {
            int sum = 0;
            for (int stop = 0; stop < STOPS; stop++) {
                if (symbolAt(reel, stop) == symbol) {
                    sum++;
                }
            }
            return sum;
        }
    }

    /** The pool, and the tickets for the next draw. */
    private static final class Lottery {
        private static final int PRICE = 2;
        private static final int MOST_TICKETS = 12;

        // The buyer of a ticket is null from the day on that this guest was barred: it wins nothing any more.
        private final Guest[] buyers = new Guest[MOST_TICKETS];
        private final int[] sets = new int[MOST_TICKETS];
        private int sold;
        private int drawn;
        private int pool;

        /** The three numbers as bits, 0 if they are not three unlike ones. */
        static int setOf(int numbers) {
            if (numbers < 0 || numbers > 999) {
                return 0;
            }
            int set = (1 << (numbers / 100)) | (1 << (numbers / 10 % 10)) | (1 << (numbers % 10));
            return Integer.bitCount(set) == 3 ? set : 0;
        }

        boolean isSoldOut() {
            return sold >= MOST_TICKETS;
        }

        boolean isDrawn() {
            return drawn != 0;
        }

        void sell(Guest buyer, int set) {
            if (sold >= 0 && sold < MOST_TICKETS) {
                buyers[sold] = buyer;
                sets[sold] = set;
                sold++;
                pool += PRICE;
            }
        }

        private int rightNumbers(int ticket) {
            if (ticket < 0 || ticket >= MOST_TICKETS || buyers[ticket] == null) {
                return 0;
            }
            return Integer.bitCount(sets[ticket] & drawn);
        }

        int ticketsWithRight(int right) {
            int sum = 0;
            for (int i = 0; i < sold; i++) {
                if (rightNumbers(i) == right) {
                    sum++;
                }
            }
            return sum;
        }

        int giveOut(int day) {
            int paid = giveTier(3, pool * 6 / 10, day) + giveTier(2, pool * 2 / 10, day);
            pool -= paid;
            sold = 0;
            drawn = 0;
            return paid;
        }

        private int giveTier(int right, int chips, int day) {
            int winners = ticketsWithRight(right);
            if (winners == 0) {
                return 0;
            }
            int share = chips / winners;
            for (int i = 0; i < sold && i < MOST_TICKETS; i++) {
                Guest winner = buyers[i];
                if (winner != null && rightNumbers(i) == right) {
                    winner.addPrize(day, share);
                }
            }
            return share * winners;
        }

        void takeAway(Guest player) {
            for (int i = 0; i < sold && i < MOST_TICKETS; i++) {
                if (buyers[i] == player) {
                    buyers[i] = null;
                }
            }
            pool += player.allPrizes();
            player.dropAllPrizes();
        }
    }
}
