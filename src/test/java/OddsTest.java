import java.util.Random;

/** Promise 29, and what promise 66 says of it: the chances of the dealer, reckoned here in the document's plain way. */
public final class OddsTest {
    private static final int[] ENDS = {17, 18, 19, 20, 21, 22};

    private OddsTest() {
    }

    public static void main(String[] args) {
        refusals();
        knownChances();
        anyStates();
        fewCards();
        Expect.end(OddsTest.class);
    }

    private static void refusals() {
        ShoeHouse house = Scene.withGuests(1, 100);
        Expect.argument(house, "16", () -> house.dealerEnds(16));
        Expect.argument(house, "23", () -> house.dealerEnds(23));
        Expect.argument(house, "-1", () -> house.dealerEnds(-1));
        Expect.state(house, "no round", () -> house.dealerEnds(17));
        house.lay(1);
        house.bet(0, 0, 2);
        Expect.state(house, "no round yet", () -> house.dealerEnds(22));
        house.deal();
        Expect.argument(house, "16 in a round", () -> house.dealerEnds(16));
        Expect.argument(house, "23 in a round", () -> house.dealerEnds(23));
        house.stand(0);
        Expect.state(house, "the round is over", () -> house.dealerEnds(17));
    }

    private static void knownChances() {
        ShoeHouse house = Scene.withGuests(1, 100);
        house.bet(0, 0, 2);
        house.lay(1);
        house.cut(30);
        house.deal();
        Expect.same("8 9 against 8", house.dealerAt(0), 8);
        compare(house, false);
        Expect.same("a ten makes 18 of the seen 8", house.dealerEnds(18) > 16.0 / 49, true);
        house.stand(0);
    }

    private static void anyStates() {
        Random random = new Random(7);
        for (int i = 0; i < 60; i++) {
            boolean isSoft = i % 2 == 0;
            ShoeHouse house = Scene.withGuests(1, 1000);
            house.rule('s', isSoft);
            house.lay(1 + i % 3 % 2);
            for (int step = 0; step < 4; step++) {
                house.riffle(random.nextBoolean());
                house.cut(1 + random.nextInt(51));
            }
            for (int round = 0; round < 1 + i % 3; round++) {
                playRound(house, isSoft, random);
            }
        }
    }

    private static void playRound(ShoeHouse house, boolean isSoft, Random random) {
        house.bet(0, 0, 2);
        house.bet(2, 0, 2);
        house.deal();
        for (int i = 0; i < 12 && Scene.isOn(house); i++) {
            compare(house, isSoft);
            Expect.same("sound", house.isSound(), true);
            if (random.nextBoolean()) {
                house.hit(house.turn());
            } else {
                house.stand(house.turn());
            }
        }
    }

    /** A round in which the shoe ends: the last chances are 0.0, as no card comes any more. */
    private static void fewCards() {
        ShoeHouse house = Scene.withGuests(1, 5000);
        house.lay(2);
        house.cut(39);
        for (char seats : "3333212331".toCharArray()) {
            deal(house, seats - '0');
            Scene.standAll(house);
        }
        deal(house, 3);
        house.split(0);
        for (int i = 0; i < 40 && house.turn() < 2; i++) {
            if (house.turn() == 1 && house.cardAt(1, 0, 0) == house.cardAt(1, 0, 1) && !isSplit(house)) {
                house.split(1);
            } else {
                house.hit(house.turn());
            }
            compare(house, false);
        }
        house.hit(2);
        compare(house, false);
        double sum = 0.0;
        for (int end : ENDS) {
            sum += house.dealerEnds(end);
        }
        Expect.same("2 and 3 end nowhere", sum, 0.0);
        Expect.same("sound", house.isSound(), true);
    }

    private static boolean isSplit(ShoeHouse house) {
        try {
            return house.cardAt(1, 1, 0) > 0;
        } catch (IndexOutOfBoundsException none) {
            return false;
        }
    }

    private static void deal(ShoeHouse house, int seats) {
        for (int seat = 0; seat < seats; seat++) {
            house.bet(seat, 0, 2);
        }
        house.deal();
    }

    static void compare(ShoeHouse house, boolean isSoft) {
        int[] left = new int[11];
        int all = 0;
        for (int rank = 1; rank <= 10; rank++) {
            left[rank] = house.left(rank);
            all += left[rank];
        }
        int seen = house.dealerAt(0);
        for (int end : ENDS) {
            double due = chance(left, all, seen, seen == 1, end, isSoft);
            Expect.same("the dealer with " + seen + " ends at " + end, house.dealerEnds(end), due);
        }
    }

    private static double chance(int[] left, int all, int hard, boolean hasAce, int end, boolean drawsAtSoft) {
        boolean isSoft = hasAce && hard + 10 <= 21;
        int value = isSoft ? hard + 10 : hard;
        boolean draws = value < 17 || value == 17 && isSoft && drawsAtSoft;
        if (!draws) {
            return value == end || end == 22 && value > 21 ? 1.0 : 0.0;
        }
        double sum = 0.0;
        for (int rank = 1; rank <= 10; rank++) {
            if (left[rank] > 0) {
                double part = (double) left[rank] / (double) all;
                left[rank]--;
                sum += part * chance(left, all - 1, hard + rank, hasAce || rank == 1, end, drawsAtSoft);
                left[rank]++;
            }
        }
        return sum;
    }
}
