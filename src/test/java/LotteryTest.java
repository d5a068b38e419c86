/** Promises 47 to 51: tickets, draws, prizes and the pool. */
public final class LotteryTest {
    private LotteryTest() {
    }

    public static void main(String[] args) {
        ticketsThatAreRefused();
        selling();
        soldOut();
        drawing();
        recasting();
        confirming();
        tiersThatNobodyHas();
        tiersAreParted();
        claiming();
        claimsByDates();
        claimsOfManyDays();
        smallPrizes();
        rollovers();
        tenths();
        ticketsOfEarlierDraws();
        allNumbers();
        Expect.end(LotteryTest.class);
    }

    private static void ticketsThatAreRefused() {
        ShoeHouse house = Scene.withGuests(1, 5);
        Expect.index(house, "guest 1", () -> house.ticket(1, 0));
        Expect.index(house, "guest -1", () -> house.ticket(-1, 123));
        for (int numbers : new int[] {0, 11, 112, 121, 211, 222, 100, 1000, 1234, -123, -1, 999, 2147483647}) {
            Expect.argument(house, "ticket " + numbers, () -> house.ticket(0, numbers));
            Expect.argument(house, "draw " + numbers, () -> house.draw(numbers));
        }
        Expect.same("two chips", house.ticket(0, 987), 1);
        Expect.same("two chips", house.ticket(0, 12), 2);
        Expect.same("one chip is left", house.chips(0), 1);
        Expect.unsupported(house, "not so many chips", () -> house.ticket(0, 123));
        house.buyIn(0, 1);
        house.limit(0, 5);
        Expect.unsupported(house, "above the limit", () -> house.ticket(0, 123));
        Expect.same("staked", house.staked(0), 4);
        Expect.same("pool", house.pool(), 4);
    }

    private static void selling() {
        ShoeHouse house = Scene.withGuests(1, 100);
        Expect.state(house, "no draw", house::confirm);
        house.ticket(0, 123);
        Expect.same("pool", house.pool(), 2);
        Expect.state(house, "still no draw", house::confirm);
        house.draw(456);
        Expect.state(house, "not confirmed", () -> house.ticket(0, 123));
        Expect.argument(house, "not confirmed, 112", () -> house.ticket(0, 112));
        house.limit(0, 0);
        Expect.unsupported(house, "not confirmed, above the limit", () -> house.ticket(0, 123));
        Expect.same("confirm", house.confirm(), 0);
        Expect.state(house, "confirmed already", house::confirm);
        house.pass(1);
        Expect.unsupported(house, "above the limit", () -> house.ticket(0, 123));
        house.limit(0, 2);
        house.pass(1);
        Expect.same("the first one for the next draw", house.ticket(0, 123), 1);
    }

    private static void soldOut() {
        ShoeHouse house = Scene.withGuests(2, 100);
        for (int i = 0; i < 12; i++) {
            Expect.same("ticket", house.ticket(i % 2, 123), i + 1);
        }
        Expect.state(house, "12 were sold", () -> house.ticket(0, 123));
        Expect.argument(house, "12 were sold, 111", () -> house.ticket(0, 111));
        Expect.same("all have three", house.draw(231), 12);
        Expect.same("14 are for them, parted by 12", house.confirm(), 12);
        Expect.same("pool", house.pool(), 12);
        Expect.same("claim", house.claim(0), 6);
        Expect.same("sound", house.isSound(), true);
    }

    private static void drawing() {
        ShoeHouse house = Scene.withGuests(1, 100);
        Expect.same("no tickets", house.draw(210), 0);
        house.confirm();
        house.ticket(0, 12);
        house.ticket(0, 789);
        Expect.same("any order", house.draw(210), 1);
        Expect.same("one that is alike", house.draw(789), 1);
        Expect.same("two right numbers are no three", house.draw(780), 0);
        Expect.same("pool", house.pool(), 4);
    }

    private static void recasting() {
        ShoeHouse house = Scene.withGuests(1, 100);
        for (int i = 0; i < 5; i++) {
            house.ticket(0, 123);
        }
        Expect.same("five", house.draw(321), 5);
        Expect.same("recast", house.draw(654), 0);
        Expect.same("the last one holds", house.confirm(), 0);
        Expect.none(house, "no prize", () -> house.claim(0));
        Expect.same("the tickets are gone", house.draw(321), 0);
    }

    private static void confirming() {
        ShoeHouse house = Scene.withGuests(3, 100);
        for (int i = 0; i < 4; i++) {
            house.ticket(0, 123);
        }
        house.ticket(1, 134);
        house.ticket(2, 145);
        house.ticket(2, 456);
        house.ticket(2, 320);
        house.draw(132);
        Expect.same("9 by 4 and 3 by 2", house.confirm(), 8 + 2);
        Expect.same("pool", house.pool(), 6);
        Expect.same("three right", house.claim(0), 8);
        Expect.same("two right", house.claim(1), 1);
        Expect.same("two right once", house.claim(2), 1);
        Expect.same("chips", house.chips(2), 95);
        Expect.same("sound", house.isSound(), true);
    }

    private static void tiersThatNobodyHas() {
        ShoeHouse house = Scene.withGuests(2, 100);
        for (int i = 0; i < 10; i++) {
            house.ticket(0, 567);
        }
        house.ticket(1, 125);
        house.draw(123);
        Expect.same("2 tenths of 22", house.confirm(), 4);
        Expect.same("6 tenths stay", house.pool(), 18);
        house.ticket(1, 123);
        house.draw(123);
        Expect.same("6 tenths of 20", house.confirm(), 12);
        Expect.same("2 tenths stay", house.pool(), 8);
        Expect.same("both prizes", house.claim(1), 16);
    }

    private static void tiersAreParted() {
        ShoeHouse house = Scene.withGuests(2, 100);
        for (int i = 0; i < 7; i++) {
            house.ticket(i % 2, 123);
        }
        for (int i = 0; i < 5; i++) {
            house.ticket(1, 130 + 4 + i);
        }
        house.draw(123);
        Expect.same("14 by 7, 4 by 5", house.confirm(), 14);
        Expect.same("claim", house.claim(0), 8);
        Expect.same("claim", house.claim(1), 6);
    }

    private static void claiming() {
        ShoeHouse house = Scene.withGuests(2, 100);
        Expect.index(house, "guest 2", () -> house.claim(2));
        Expect.index(house, "guest -1", () -> house.claim(-1));
        Expect.none(house, "no prizes", () -> house.claim(0));
        house.ticket(0, 123);
        house.ticket(0, 124);
        house.draw(123);
        Expect.none(house, "not confirmed", () -> house.claim(0));
        Expect.same("2 of 4, none of the other tier", house.confirm(), 2);
        Expect.none(house, "not the other guest", () -> house.claim(1));
        Expect.same("prizes are neither in the pool", house.pool(), 2);
        Expect.same("nor chips of the guest", house.chips(0), 96);
        Expect.same("sound", house.isSound(), true);
        Expect.same("claim", house.claim(0), 2);
        Expect.same("chips", house.chips(0), 98);
        Expect.none(house, "claimed already", () -> house.claim(0));
        Expect.same("sound", house.isSound(), true);
    }

    private static ShoeHouse withPrize() {
        ShoeHouse house = Scene.withGuests(2, 100);
        house.ticket(0, 123);
        house.draw(123);
        Expect.same("a prize", house.confirm(), 1);
        return house;
    }

    private static void claimsByDates() {
        ShoeHouse house = withPrize();
        house.pass(3);
        Expect.same("the third day", house.claim(0), 1);
        ShoeHouse late = withPrize();
        late.pass(3);
        Expect.same("not yet", late.pool(), 1);
        late.pass(1);
        Expect.same("into the pool", late.pool(), 2);
        Expect.none(late, "the fourth day", () -> late.claim(0));
        late.pass(4);
        Expect.same("once", late.pool(), 2);
        ShoeHouse far = withPrize();
        far.pass(30);
        Expect.same("into the pool", far.pool(), 2);
        Expect.same("sound", far.isSound(), true);
    }

    private static void claimsOfManyDays() {
        ShoeHouse house = Scene.withGuests(2, 100);
        house.pass(5);
        int pool = 0;
        for (int day = 0; day < 4; day++) {
            for (int i = 0; i <= day; i++) {
                house.ticket(0, 123);
            }
            house.draw(123);
            house.confirm();
            house.pass(1);
        }
        // Pools of 2, 5, 9 and 14 give 1, 2 by 2, 5 by 3 and 8 by 4; the first one has gone into the pool.
        pool = 14 - 8 + 1;
        Expect.same("the first prize is gone", house.pool(), pool);
        house.pass(1);
        Expect.same("then the second", house.pool(), pool + 2);
        Expect.same("the others can be claimed", house.claim(0), 3 + 8);
        house.pass(2);
        Expect.same("claimed prizes do not go into the pool", house.pool(), pool + 2);
        Expect.same("sound", house.isSound(), true);
    }

    private static void smallPrizes() {
        ShoeHouse house = Scene.withGuests(1, 100);
        house.ticket(0, 123);
        house.draw(124);
        Expect.same("2 tenths of 2 are none", house.confirm(), 0);
        Expect.none(house, "no prize", () -> house.claim(0));
        Expect.same("pool", house.pool(), 2);
    }

    private static void rollovers() {
        ShoeHouse house = Scene.withGuests(1, 100);
        for (int round = 0; round < 3; round++) {
            house.ticket(0, 123);
            house.ticket(0, 345);
            Expect.same("nobody", house.draw(789), 0);
            Expect.same("nothing", house.confirm(), 0);
            Expect.same("it rolls over", house.pool(), 4 * (round + 1));
        }
        house.pass(9);
        house.ticket(0, 123);
        house.draw(123);
        Expect.same("6 tenths of 14", house.confirm(), 8);
        Expect.same("the rest stays", house.pool(), 6);
    }

    private static void tenths() {
        ShoeHouse house = Scene.withGuests(2, 100);
        for (int i = 0; i < 4; i++) {
            house.ticket(0, 567);
        }
        house.ticket(1, 125);
        house.draw(123);
        Expect.same("2 tenths of 10", house.confirm(), 2);
        house.ticket(1, 123);
        house.draw(123);
        Expect.same("6 tenths of 10", house.confirm(), 6);
    }

    private static void ticketsOfEarlierDraws() {
        ShoeHouse house = Scene.withGuests(2, 100);
        for (int i = 0; i < 5; i++) {
            house.ticket(0, 123);
        }
        house.draw(789);
        house.confirm();
        house.ticket(1, 123);
        Expect.same("one ticket", house.draw(123), 1);
        Expect.same("6 tenths of 12", house.confirm(), 7);
        Expect.none(house, "those of the draw before win nothing", () -> house.claim(0));
        Expect.same("claim", house.claim(1), 7);
        Expect.same("sound", house.isSound(), true);
    }

    private static void allNumbers() {
        for (int hundreds = 0; hundreds < 10; hundreds++) {
            ShoeHouse house = Scene.withGuests(1, 100);
            for (int i = 0; i < 100; i++) {
                int numbers = 100 * hundreds + i;
                int tens = i / 10;
                int ones = i % 10;
                if (hundreds == tens || tens == ones || hundreds == ones) {
                    Expect.argument(house, "draw " + numbers, () -> house.draw(numbers));
                } else {
                    Expect.same("draw " + numbers, house.draw(numbers), 0);
                }
            }
            house.confirm();
            int tens = (hundreds + 3) % 10;
            int ones = (hundreds + 7) % 10;
            house.ticket(0, 100 * hundreds + 10 * tens + ones);
            Expect.same("turned", house.draw(100 * ones + 10 * hundreds + tens), 1);
            Expect.same("turned", house.draw(100 * tens + 10 * ones + hundreds), 1);
            Expect.same("another one", house.draw(100 * tens + 10 * ones + (hundreds + 1) % 10), 0);
        }
    }
}
