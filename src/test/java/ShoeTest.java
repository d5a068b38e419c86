import java.util.ArrayList;
import java.util.List;

/** Promises 13 to 15, 26 to 28 and 30 to 33: the shoe, what is left, counts and suspicions. */
public final class ShoeTest {
    private ShoeTest() {
    }

    public static void main(String[] args) {
        laying();
        cutting();
        riffling();
        orderBehindCutsAndRiffles();
        riffleOfOddCards();
        leftCards();
        busts();
        weights();
        counts();
        trueCountIsCut();
        suspicion();
        suspicionNeedsThree();
        suspicionByMeans();
        suspicionBelowTwo();
        betsWithoutShoe();
        Expect.end(ShoeTest.class);
    }

    private static void laying() {
        ShoeHouse house = new ShoeHouse();
        Expect.argument(house, "0 decks", () -> house.lay(0));
        Expect.argument(house, "3 decks", () -> house.lay(3));
        Expect.argument(house, "-1 decks", () -> house.lay(-1));
        Expect.same("1 deck", house.lay(1), 52);
        Expect.same("2 decks", house.lay(2), 104);
        for (int rank = 1; rank < 10; rank++) {
            Expect.same("left", house.left(rank), 8);
        }
        Expect.same("left", house.left(10), 32);
        Expect.same("1 deck again", house.lay(1), 52);
        Expect.same("left", house.left(9), 4);
        Expect.same("left", house.left(10), 16);
        Expect.same("sound", house.isSound(), true);
    }

    private static void cutting() {
        ShoeHouse house = new ShoeHouse();
        Expect.argument(house, "not laid", () -> house.cut(1));
        Expect.argument(house, "not laid", () -> house.cut(0));
        house.lay(1);
        Expect.argument(house, "0 cards", () -> house.cut(0));
        Expect.argument(house, "-1 cards", () -> house.cut(-1));
        Expect.argument(house, "all cards", () -> house.cut(52));
        Expect.argument(house, "more", () -> house.cut(Integer.MAX_VALUE));
        Expect.same("1 card", house.cut(1), 1);
        Expect.same("3 cards", house.cut(3), 2);
        Expect.same("51 cards, the last one is first", house.cut(51), 1);
        Expect.same("back", house.cut(1), 2);
        Expect.same("32 cards", house.cut(32), 10);
        Expect.same("left", house.left(10), 16);
        house.lay(2);
        Expect.same("103 cards", house.cut(103), 10);
        Expect.argument(house, "104 cards", () -> house.cut(104));
    }

    private static void riffling() {
        ShoeHouse house = new ShoeHouse();
        Expect.unsupported(house, "not laid", () -> house.riffle(true));
        Expect.unsupported(house, "not laid", () -> house.riffle(false));
        house.lay(1);
        Expect.same("the first half first", house.riffle(true), 1);
        Expect.same("the other one first", house.riffle(false), 4);
        house.lay(1);
        Expect.same("the other one first", house.riffle(false), 7);
        house.lay(2);
        Expect.same("the other one first", house.riffle(false), 7);
        Expect.same("sound", house.isSound(), true);
    }

    /** The order in the shoe is seen by cutting card by card. */
    static List<Integer> order(ShoeHouse house, int size) {
        List<Integer> ranks = new ArrayList<>();
        for (int i = 0; i < size; i++) {
            ranks.add(house.cut(1));
        }
        ranks.add(0, ranks.remove(size - 1));
        return ranks;
    }

    static List<Integer> laid(int decks) {
        List<Integer> ranks = new ArrayList<>();
        for (int i = 0; i < 52 * decks; i++) {
            ranks.add(Math.min(10, 1 + i / (4 * decks)));
        }
        return ranks;
    }

    static List<Integer> cutBy(List<Integer> ranks, int cards) {
        List<Integer> all = new ArrayList<>(ranks.subList(cards, ranks.size()));
        all.addAll(ranks.subList(0, cards));
        return all;
    }

    static List<Integer> riffledBy(List<Integer> ranks, boolean isOut) {
        int first = isOut ? (ranks.size() + 1) / 2 : ranks.size() / 2;
        List<Integer> one = new ArrayList<>(ranks.subList(0, first));
        List<Integer> other = new ArrayList<>(ranks.subList(first, ranks.size()));
        List<Integer> all = new ArrayList<>();
        boolean isOne = isOut;
        while (!one.isEmpty() || !other.isEmpty()) {
            all.add(isOne ? one.remove(0) : other.remove(0));
            isOne = !isOne;
        }
        return all;
    }

    private static void orderBehindCutsAndRiffles() {
        for (int decks = 1; decks <= 2; decks++) {
            ShoeHouse house = new ShoeHouse();
            Expect.same("cards", house.lay(decks), 52 * decks);
            List<Integer> due = laid(decks);
            Expect.same("by ranks, rising", order(house, due.size()).equals(due), true);
            house.riffle(true);
            house.cut(17);
            house.riffle(false);
            house.riffle(false);
            house.cut(50);
            house.riffle(true);
            due = riffledBy(cutBy(riffledBy(riffledBy(cutBy(riffledBy(due, true), 17), false), false), 50), true);
            Expect.same("order", order(house, due.size()).equals(due), true);
            Expect.same("sound", house.isSound(), true);
        }
    }

    private static void riffleOfOddCards() {
        for (int i = 0; i < 2; i++) {
            boolean isOut = i == 0;
            ShoeHouse house = Scene.withGuests(1, 100);
            house.lay(1);
            house.cut(35);
            house.bet(0, 0, 2);
            house.deal();
            house.stand(0);
            Expect.same("9 and 10", house.cardAt(0, 0, 0) + house.cardAt(0, 0, 1), 19);
            List<Integer> due = new ArrayList<>(cutBy(laid(1), 35).subList(4, 52));
            Expect.same("48 cards", order(house, 48).equals(due), true);
            house.bet(0, 0, 2);
            house.deal();
            Expect.same("a fifth card", house.hit(0), 30);
            due = new ArrayList<>(due.subList(5, 48));
            Expect.same("43 cards", order(house, 43).equals(due), true);
            int first = house.riffle(isOut);
            due = riffledBy(due, isOut);
            Expect.same("first", first, due.get(0));
            Expect.same("order", order(house, 43).equals(due), true);
        }
    }

    private static void leftCards() {
        ShoeHouse house = new ShoeHouse();
        Expect.argument(house, "rank 0", () -> house.left(0));
        Expect.argument(house, "rank 11", () -> house.left(11));
        Expect.argument(house, "rank -1", () -> house.left(-1));
        Expect.same("not laid", house.left(10), 0);
        house.guest(100);
        house.buyIn(0, 100);
        house.bet(0, 0, 2);
        house.lay(1);
        house.cut(28);
        house.deal();
        Expect.same("two 8, the seen one", house.left(8), 1);
        Expect.same("the hidden one counts", house.left(9), 4);
        house.hit(0);
        Expect.same("over, 25", house.tray(0), 2);
        Expect.same("all 8 were seen", house.left(8), 0);
        Expect.same("and a 9", house.left(9), 3);
        house.bet(0, 0, 2);
        house.deal();
        house.stand(0);
        Expect.same("dealt aside", house.left(8), 0);
        Expect.same("the 9", house.left(9), 0);
        house.lay(1);
        Expect.same("anew", house.left(8), 4);
    }

    private static void busts() {
        ShoeHouse house = new ShoeHouse();
        Expect.argument(house, "3", () -> house.bustOver(3));
        Expect.argument(house, "22", () -> house.bustOver(22));
        Expect.argument(house, "3", () -> house.bustUnder(3));
        Expect.argument(house, "22", () -> house.bustUnder(22));
        Expect.arithmetic(house, "not laid", () -> house.bustOver(4));
        Expect.arithmetic(house, "not laid", () -> house.bustUnder(21));
        house.lay(1);
        long[] over = {0, 0, 0, 0, 0, 0, 0, 0, 4, 5, 6, 7, 8, 9, 10, 11, 12, 1};
        for (int value = 4; value <= 21; value++) {
            long due = over[value - 4];
            Expect.same("over " + value, house.bustOver(value), due);
            Expect.same("under " + value, house.bustUnder(value), due < 2 ? 1 : 13);
        }
        house.lay(2);
        Expect.same("the same by two decks", house.bustOver(12), 4);
        Expect.same("the same by two decks", house.bustUnder(12), 13);
        house.guest(100);
        house.buyIn(0, 100);
        house.bet(0, 0, 2);
        house.lay(1);
        house.cut(30);
        house.deal();
        Expect.same("8 9 8, 9 hidden: 15 of 49 tens and 4 of 9 bust 13", house.bustOver(13), 19);
        Expect.same("of 49", house.bustUnder(13), 49);
        Expect.same("in lowest terms: 21 of 49", house.bustOver(14), 3);
        Expect.same("in lowest terms: 21 of 49", house.bustUnder(14), 7);
    }

    private static void weights() {
        ShoeHouse house = new ShoeHouse();
        Expect.argument(house, "rank 0", () -> house.weigh(0, 1));
        Expect.argument(house, "rank 11", () -> house.weigh(11, 1));
        Expect.argument(house, "weight 4", () -> house.weigh(1, 4));
        Expect.argument(house, "weight -4", () -> house.weigh(1, -4));
        for (int rank = 1; rank <= 10; rank++) {
            Expect.same("at first", house.weigh(rank, 3), 0);
            Expect.same("told", house.weigh(rank, -3), 3);
            Expect.same("told", house.weigh(rank, rank % 3), -3);
        }
        for (int rank = 1; rank <= 10; rank++) {
            Expect.same("each by itself", house.weigh(rank, 0), rank % 3);
        }
    }

    private static void counts() {
        ShoeHouse house = Scene.withGuests(1, 100);
        house.weigh(8, 2);
        house.weigh(9, -3);
        Expect.same("not laid", house.count(), 0);
        Expect.arithmetic(house, "not laid", house::trueCount);
        house.bet(0, 0, 2);
        house.lay(1);
        Expect.same("nothing seen", house.count(), 0);
        Expect.same("nothing seen", house.trueCount(), 0);
        house.cut(30);
        house.deal();
        Expect.same("8 9 8, not the hidden 9", house.count(), 2 + 2 - 3 - 4 + 4);
        Expect.same("1 by 49", house.trueCount(), 1 * 52 / 49);
        house.weigh(9, 1);
        Expect.same("the weights as they are by now", house.count(), 5);
        Expect.same("5 by 49", house.trueCount(), 5);
        house.weigh(10, 3);
        Expect.same("no ten was seen", house.count(), 5);
        house.stand(0);
        Expect.same("the hidden one is shown", house.dealerAt(1), 9);
        Expect.same("17 against 18", house.count(), 6);
        Expect.same("cards stay counted", house.trueCount(), 6 * 52 / 48);
        house.lay(1);
        Expect.same("anew", house.count(), 0);
    }

    private static void trueCountIsCut() {
        ShoeHouse house = Scene.withGuests(1, 100);
        house.bet(0, 0, 2);
        house.lay(1);
        house.cut(30);
        house.deal();
        house.weigh(8, -1);
        Expect.same("-2", house.count(), -2);
        Expect.same("-104 by 49, cut", house.trueCount(), -2);
        house.weigh(9, 1);
        Expect.same("-52 by 49, cut", house.trueCount(), -1);
        house.weigh(8, 2);
        house.weigh(9, 3);
        Expect.same("7", house.count(), 7);
        Expect.same("364 by 49, cut", house.trueCount(), 7);
        house.stand(0);
        Expect.same("10 by 48", house.trueCount(), 10);
        house.weigh(9, -3);
        house.weigh(8, 3);
        Expect.same("0", house.trueCount(), 0);
        house.weigh(9, 3);
        Expect.same("12 by 48", house.trueCount(), 13);
        house.weigh(9, -3);
        house.weigh(8, -3);
        Expect.same("-12 by 48", house.trueCount(), -13);
    }

    /** Brings the true count to just 2: 8 8 9 9 were seen of a deck. */
    static void tellHigh(ShoeHouse house) {
        house.weigh(8, 1);
    }

    static ShoeHouse watched() {
        ShoeHouse house = Scene.withGuests(2, 4000);
        house.lay(1);
        house.cut(30);
        house.bet(0, 1, 2);
        house.deal();
        house.stand(0);
        return house;
    }

    static void betAtSeat(ShoeHouse house, int guest, int chips) {
        house.bet(2, guest, chips);
        house.lay(1);
        house.cut(30);
        house.deal();
        house.stand(2);
    }

    private static void suspicion() {
        ShoeHouse house = watched();
        Expect.index(house, "guest 2", () -> house.isSuspected(2));
        Expect.index(house, "guest -1", () -> house.isSuspected(-1));
        for (int i = 0; i < 3; i++) {
            Expect.same("not yet", house.isSuspected(0), false);
            tellHigh(house);
            Expect.same("true count", house.trueCount(), 2);
            betAtSeat(house, 0, 30);
            Expect.same("not yet", house.isSuspected(0), false);
            house.weigh(8, 0);
            Expect.same("true count", house.trueCount(), 0);
            betAtSeat(house, 0, 10);
        }
        Expect.same("three times as much, thrice", house.isSuspected(0), true);
        Expect.same("not the other", house.isSuspected(1), false);
        house.weigh(8, -1);
        betAtSeat(house, 0, 11);
        Expect.same("10.25 are too much", house.isSuspected(0), false);
        house.weigh(8, 2);
        betAtSeat(house, 0, 40);
        Expect.same("32.5 are enough", house.isSuspected(0), true);
        house.pass(1);
        house.lay(2);
        Expect.same("it is not forgotten", house.isSuspected(0), true);
    }

    private static void suspicionNeedsThree() {
        ShoeHouse house = watched();
        tellHigh(house);
        for (int i = 0; i < 4; i++) {
            betAtSeat(house, 0, 300);
        }
        house.weigh(8, 0);
        betAtSeat(house, 0, 2);
        betAtSeat(house, 0, 2);
        Expect.same("two others are too few", house.isSuspected(0), false);
        betAtSeat(house, 0, 2);
        Expect.same("three others", house.isSuspected(0), true);
        ShoeHouse other = watched();
        for (int i = 0; i < 5; i++) {
            betAtSeat(other, 0, 2);
        }
        tellHigh(other);
        betAtSeat(other, 0, 300);
        betAtSeat(other, 0, 300);
        Expect.same("two high ones are too few", other.isSuspected(0), false);
        betAtSeat(other, 0, 300);
        Expect.same("three high ones", other.isSuspected(0), true);
    }

    private static void suspicionByMeans() {
        ShoeHouse house = watched();
        int[] high = {89, 89, 92};
        for (int chips : high) {
            tellHigh(house);
            betAtSeat(house, 0, chips);
        }
        house.weigh(8, 0);
        for (int i = 0; i < 6; i++) {
            betAtSeat(house, 0, 30);
        }
        Expect.same("90 to 30 is three times", house.isSuspected(0), true);
        betAtSeat(house, 0, 31);
        Expect.same("a little less is not", house.isSuspected(0), false);
        ShoeHouse wheel = watched();
        tellHigh(wheel);
        for (int i = 0; i < 3; i++) {
            wheel.wager(0, 'r', 0, 300);
            wheel.pull(0, 100);
            wheel.stop(0);
            wheel.ticket(0, 123);
        }
        wheel.weigh(8, 0);
        for (int i = 0; i < 3; i++) {
            betAtSeat(wheel, 0, 2);
        }
        Expect.same("only bets at the cards", wheel.isSuspected(0), false);
    }

    /** Bets at a shoe of two decks of which 8 8 9 9 were seen, and brings it back to that. */
    static void betOfTwoDecks(ShoeHouse house, int chips) {
        house.bet(2, 0, chips);
        house.lay(2);
        house.cut(62);
        house.deal();
        house.stand(2);
    }

    private static void suspicionBelowTwo() {
        ShoeHouse house = Scene.withGuests(1, 4000);
        betOfTwoDecks(house, 20);
        for (int i = 0; i < 3; i++) {
            house.weigh(8, 1);
            Expect.same("2 by 100", house.trueCount(), 1);
            betOfTwoDecks(house, 60);
            house.weigh(8, 0);
            betOfTwoDecks(house, 20);
        }
        Expect.same("1 is not high", house.isSuspected(0), false);
        house.weigh(8, 2);
        for (int i = 0; i < 3; i++) {
            Expect.same("4 by 100", house.trueCount(), 2);
            betOfTwoDecks(house, 200);
        }
        Expect.same("2 is high", house.isSuspected(0), true);
    }

    private static void betsWithoutShoe() {
        ShoeHouse house = Scene.withGuests(1, 4000);
        house.weigh(8, 3);
        for (int seat = 0; seat < 3; seat++) {
            house.bet(seat, 0, 5);
        }
        Expect.same("three others", house.isSuspected(0), false);
        house.lay(1);
        house.cut(30);
        house.deal();
        for (int i = 0; i < 3; i++) {
            house.stand(i);
        }
        Expect.same("two 8 were seen", house.trueCount() >= 2, true);
        for (int seat = 0; seat < 3; seat++) {
            house.bet(seat, 0, 15);
        }
        Expect.same("those without a shoe count as others", house.isSuspected(0), true);
    }
}
