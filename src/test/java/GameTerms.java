import java.util.function.Supplier;

/** The sentences of the terms about the wheel, the machine and lotteries. */
final class GameTerms {
    private static final Supplier<ShoeHouse> TWO = () -> Scene.withGuests(2, 5000);

    private GameTerms() {
    }

    static void run() {
        wheel();
        settledOneByOne();
        colours();
        reels();
        pays();
        tenths();
        pots();
        tilts();
        tickets();
        draws();
        prizes();
        dates();
        nextDraws();
    }

    private static int paid(char kind, int number, int stake, int fallen) {
        ShoeHouse house = Scene.withGuests(1, 500);
        house.wager(0, kind, number, stake);
        int paid = house.spin(fallen);
        Expect.same("chips", house.chips(0), 500 - stake + paid);
        Expect.same("the house", house.vault() + house.tray(1), 99500 + stake - paid);
        return paid;
    }

    private static void wheel() {
        Doc.term("The wheel has the numbers 0 to 36.");
        Refusal.arguments(TWO, 0, 36, ShoeHouse::spin);
        for (int number = 0; number <= 36; number++) {
            Expect.same("it falls on " + number, paid('n', number, 5, number), 180);
        }
        Doc.term("Wagers, at most 10, are 'n' on a number, paid 35 times, 'r' on red and 'b' on black, paid once, 'd' on a dozen, 0 to 2, "
            + "of 12 numbers each from 1 on, paid twice;");
        for (int fallen = 0; fallen <= 36; fallen++) {
            Expect.same("number", paid('n', 17, 1, fallen), fallen == 17 ? 36 : 0);
            Expect.same("number 0", paid('n', 0, 1, fallen), fallen == 0 ? 36 : 0);
            for (int dozen = 0; dozen <= 2; dozen++) {
                boolean isIn = fallen > 12 * dozen && fallen <= 12 * dozen + 12;
                Expect.same("dozen " + dozen + " at " + fallen, paid('d', dozen, 10, fallen), isIn ? 30 : 0);
            }
            Expect.same("red or black at " + fallen, paid('r', 0, 10, fallen) + paid('b', 0, 10, fallen), fallen == 0 ? 0 : 20);
        }
        ShoeHouse ten = TWO.get();
        for (int i = 1; i <= 10; i++) {
            Expect.same("wagers", ten.wager(i % 2, 'r', 0, 1), i);
        }
        Expect.state(ten, "at most 10", () -> ten.wager(0, 'r', 0, 1));
        Doc.term("the stake comes back besides.");
        Expect.same("35 and 1", paid('n', 5, 10, 5), 350 + 10);
        Expect.same("1 and 1", paid('r', 5, 10, 5), 10 + 10);
        Expect.same("1 and 1", paid('b', 5, 10, 6), 10 + 10);
        Expect.same("2 and 1", paid('d', 0, 10, 5), 20 + 10);
    }

    private static void settledOneByOne() {
        Doc.term("Wagers are settled one by one, as they were told.");
        ShoeHouse lostFirst = TWO.get();
        lostFirst.wager(0, 'b', 0, 10);
        lostFirst.wager(1, 'r', 0, 10);
        lostFirst.spin(1);
        Expect.same("what is lost pays what is won behind it", lostFirst.vault(), 90000);
        Expect.same("tray", lostFirst.tray(1), 0);
        ShoeHouse wonFirst = TWO.get();
        wonFirst.wager(1, 'r', 0, 10);
        wonFirst.wager(0, 'b', 0, 10);
        wonFirst.spin(1);
        Expect.same("the vault pays what is won first", wonFirst.vault(), 89990);
        Expect.same("tray", wonFirst.tray(1), 10);
        ShoeHouse between = TWO.get();
        between.wager(0, 'b', 0, 10);
        between.wager(1, 'd', 0, 7);
        between.wager(0, 'n', 2, 20);
        between.spin(1);
        Expect.same("10 of the first", between.vault(), 89996);
        Expect.same("20 of the third", between.tray(1), 20);
    }

    private static void colours() {
        Doc.term("Red are the odd ones of 1 to 10 and 19 to 28, and the even ones of 11 to 18 and 29 to 36, the others but 0 are black.");
        String red = " 1 3 5 7 9 12 14 16 18 19 21 23 25 27 30 32 34 36 ";
        String black = " 2 4 6 8 10 11 13 15 17 20 22 24 26 28 29 31 33 35 ";
        for (int fallen = 0; fallen <= 36; fallen++) {
            Expect.same("red at " + fallen, paid('r', 0, 10, fallen), red.contains(" " + fallen + " ") ? 20 : 0);
            Expect.same("black at " + fallen, paid('b', 0, 10, fallen), black.contains(" " + fallen + " ") ? 20 : 0);
        }
    }

    /** Stops of three reels with the same symbols, which pay 2 to 6 times. */
    private static ShoeHouse machine(int symbols) {
        ShoeHouse house = TWO.get();
        for (int reel = 0; reel < 3; reel++) {
            house.stops(reel, symbols);
        }
        for (int symbol = 0; symbol < 5; symbol++) {
            house.pays(symbol, 2 + symbol);
        }
        return house;
    }

    private static void reels() {
        Doc.term("The machine has three reels with 8 virtual stops each, that show symbols, 0 to 4, all 4 at first;");
        for (int reel = 0; reel < 3; reel++) {
            Expect.same("all 4 at first", new ShoeHouse().stops(reel, 44444444), 0);
            Expect.same("8 stops", new ShoeHouse().stops(reel, 0), 8);
        }
        Refusal.index("no fourth reel", TWO, h -> h.stops(3, 0));
        Refusal.argument("no symbol 5", TWO, h -> h.stops(0, 5));
        Refusal.argument("no ninth stop", () -> Scene.after(TWO, h -> h.pull(0, 1)), h -> h.stop(8));
        int symbols = 1234012;
        for (int stop = 0; stop < 8; stop++) {
            ShoeHouse house = machine(symbols);
            house.pull(0, 9);
            int symbol = Integer.parseInt("01234012".substring(stop, stop + 1));
            Expect.same("stop " + stop + " shows " + symbol, house.stop(111 * stop), (2 + symbol) * 9);
        }
    }

    private static void pays() {
        Doc.term("three alike pay as many times the stake as told for the symbol, 0 at first;");
        ShoeHouse first = TWO.get();
        first.pull(0, 10);
        Expect.same("0 at first", first.stop(0), 0);
        for (int times : new int[] {0, 1, 200}) {
            ShoeHouse house = TWO.get();
            house.pays(4, times);
            house.pull(0, 100);
            Expect.same(times + " times", house.stop(0), 100 * times);
        }
        for (int stops = 0; stops < 64; stops++) {
            int told = 100 * (stops / 16) + 10 * (stops / 4 % 4) + stops % 4;
            boolean isAlike = told % 111 == 0;
            ShoeHouse house = machine(12341234);
            house.pull(0, 9);
            Expect.same("alike at " + told, house.stop(told), isAlike ? 9 * (2 + told / 111 + 1) : 0);
        }
        Doc.term("the stake does not come back.");
        ShoeHouse once = TWO.get();
        once.pays(4, 1);
        once.pull(0, 10);
        once.stop(0);
        Expect.same("10 of 10", once.chips(0), 5000);
        Expect.same("the tenth", once.pot(), 1);
        Expect.same("the vault paid it", once.vault() + once.tray(2), 89999);
        ShoeHouse lost = Scene.after(TWO, h -> h.pull(0, 10));
        lost.stop(0);
        Expect.same("lost", lost.chips(0), 4990);
    }

    private static void tenths() {
        Doc.term("A tenth of each stake, cut, goes into the pot, the rest into the tray, as the spin is settled.");
        ShoeHouse house = TWO.get();
        int pot = 0;
        int tray = 0;
        for (int stake : new int[] {1, 9, 10, 11, 19, 20, 55, 99, 100}) {
            house.pull(0, stake);
            Expect.same("not yet", house.pot() + house.tray(2), pot + tray);
            house.stop(0);
            pot += stake / 10;
            tray += stake - stake / 10;
            Expect.same("pot", house.pot(), pot);
            Expect.same("tray", house.tray(2), tray);
        }
        ShoeHouse won = machine(44444444);
        won.pull(0, 50);
        won.stop(0);
        Expect.same("also of a spin that won", won.pot(), 5);
        Expect.same("the rest pays first", won.vault(), 90000 - 300 + 45);
        ShoeHouse tilted = Scene.after(TWO, h -> h.pull(0, 100));
        tilted.tilt();
        tilted.recover();
        Expect.same("a tilted spin is not settled", tilted.pot() + tilted.tray(2), 0);
    }

    /** The pot has so many chips, by stakes of guest 0; the reels show symbol 0 at stop 7 alone. */
    private static ShoeHouse withPot(int chips) {
        ShoeHouse house = TWO.get();
        for (int reel = 0; reel < 3; reel++) {
            house.stops(reel, 44444440);
        }
        for (int left = chips; left > 0; left -= 10) {
            if (house.staked(0) > 4900) {
                house.pass(1);
            }
            house.pull(0, Math.min(left, 10) * 10);
            house.stop(0);
        }
        Expect.same("pot", house.pot(), chips);
        return house;
    }

    private static void pots() {
        Doc.term("Three symbols 0 pay the pot besides, with this tenth;");
        ShoeHouse zeros = withPot(25);
        zeros.pays(0, 3);
        zeros.pull(1, 40);
        Expect.same("3 times, and the pot with 4", zeros.stop(777), 120 + 29);
        Expect.same("pot", zeros.pot(), 0);
        ShoeHouse first = withPot(0);
        first.pull(1, 39);
        Expect.same("this tenth alone", first.stop(777), 3);
        for (int stops : new int[] {0, 770, 707, 77, 7, 70, 700}) {
            ShoeHouse none = withPot(25);
            none.pull(1, 40);
            Expect.same("no three 0 at " + stops, none.stop(stops), 0);
            Expect.same("the pot stays", none.pot(), 29);
        }
        Doc.term("if the pot has as much as the told bound or more, 500 at first, as a spin begins, this spin has the pot whatever is "
            + "shown.");
        for (int pot = 499; pot <= 501; pot++) {
            ShoeHouse house = withPot(Math.min(pot, 500));
            if (pot == 501) {
                house.bound(499);
            }
            house.pull(1, 20);
            Expect.same("the bound, pot " + pot, house.stop(0), pot < 500 ? 0 : 502);
            Expect.same("pot", house.pot(), pot < 500 ? 501 : 0);
        }
        for (int bound = 24; bound <= 26; bound++) {
            ShoeHouse house = withPot(25);
            house.bound(bound);
            house.pull(1, 100);
            Expect.same("bound " + bound, house.stop(123), bound < 26 ? 35 : 0);
        }
        ShoeHouse besides = withPot(25);
        besides.bound(25);
        besides.pays(4, 2);
        besides.pull(1, 10);
        Expect.same("three alike besides", besides.stop(0), 20 + 26);
        besides.pull(1, 10);
        Expect.same("not the next one", besides.stop(600), 20);
        Expect.same("pot", besides.pot(), 1);
        ShoeHouse zero = withPot(25);
        zero.bound(25);
        zero.pull(1, 10);
        Expect.same("once, also with three 0", zero.stop(777), 26);
        ShoeHouse tilted = withPot(25);
        tilted.bound(25);
        tilted.pull(1, 10);
        tilted.tilt();
        tilted.recover();
        Expect.same("a tilted spin has it not", tilted.pot(), 25);
        tilted.bound(26);
        tilted.pull(1, 9);
        Expect.same("nor the next one, below the bound", tilted.stop(0), 0);
    }

    private static void tilts() {
        Doc.term("A tilt stops a spin;");
        Supplier<ShoeHouse> tilted = () -> Scene.after(TWO, h -> {
            h.pull(0, 50);
            h.tilt();
        });
        Refusal.state("it does not go on", tilted, h -> h.stop(0));
        Refusal.state("nor twice", tilted, ShoeHouse::tilt);
        Refusal.state("no other begins", tilted, h -> h.pull(1, 1));
        Expect.same("nothing comes back yet", tilted.get().chips(0), 4950);
        Doc.term("it is recovered by giving the stake back.");
        ShoeHouse house = tilted.get();
        house.pass(3);
        Expect.same("chips", house.recover(), 5000);
        Expect.same("nothing else", house.vault(), 90000);
        Expect.state(house, "once", house::recover);
        Expect.same("the machine is free", house.pull(1, 1), 4999);
    }

    private static void tickets() {
        Doc.term("A ticket for 2 chips has three unlike numbers of 0 to 9;");
        ShoeHouse house = TWO.get();
        house.ticket(0, 987);
        Expect.same("2 chips", house.chips(0), 4998);
        Expect.same("staked", house.staked(0), 2);
        for (int numbers = -1; numbers <= 1000; numbers++) {
            int asked = numbers;
            boolean isUnlike = numbers >= 0 && numbers <= 999 && numbers / 100 != numbers / 10 % 10
                && numbers / 10 % 10 != numbers % 10 && numbers / 100 != numbers % 10;
            ShoeHouse each = TWO.get();
            if (isUnlike) {
                Expect.same("ticket " + numbers, each.ticket(0, numbers), 1);
                Expect.same("its draw", each.draw(numbers), 1);
            } else {
                Expect.argument(each, "ticket " + numbers, () -> each.ticket(0, asked));
            }
        }
        Doc.term("the price goes into the pool.");
        Expect.same("pool", house.pool(), 2);
        house.ticket(1, 123);
        Expect.same("pool", house.pool(), 4);
        Expect.same("not into a tray", house.tray(0) + house.tray(1) + house.tray(2), 0);
        Expect.same("not into the vault", house.vault(), 90000);
    }

    private static ShoeHouse withTickets(int... numbers) {
        ShoeHouse house = TWO.get();
        for (int each : numbers) {
            house.ticket(0, each);
        }
        return house;
    }

    private static void draws() {
        Doc.term("A draw tells three unlike numbers, and can be recast by others until it is confirmed;");
        ShoeHouse house = withTickets(123, 456, 457);
        Expect.same("any order", house.draw(312), 1);
        Expect.same("recast", house.draw(546), 1);
        Expect.same("recast", house.draw(890), 0);
        Expect.argument(house, "alike", () -> house.draw(112));
        Expect.same("recast by the same", house.draw(890), 0);
        Expect.same("the last one holds", house.confirm(), 0);
        Expect.state(house, "confirmed", house::confirm);
        ShoeHouse last = withTickets(123, 456, 457);
        last.draw(123);
        last.draw(456);
        Expect.same("6 tenths of 6, 2 tenths of 6", last.confirm(), 4);
        Doc.term("as long as a draw is not confirmed, no tickets are sold.");
        ShoeHouse drawn = withTickets(123);
        drawn.draw(456);
        Expect.state(drawn, "not now", () -> drawn.ticket(1, 123));
        drawn.draw(789);
        drawn.pass(2);
        Expect.state(drawn, "not on a later day", () -> drawn.ticket(1, 123));
        drawn.confirm();
        Expect.same("for the next one", drawn.ticket(1, 123), 1);
    }

    private static void prizes() {
        Doc.term("As it is confirmed, 6 tenths of the pool, cut, are for tickets with three right numbers, 2 tenths, cut, for those with "
            + "two, parted alike, cut;");
        for (int three = 0; three <= 12; three++) {
            for (int two = 0; three + two <= 12; two++) {
                ShoeHouse house = TWO.get();
                for (int i = 0; i < 12; i++) {
                    house.ticket(i < three ? 0 : 1, i < three ? 123 : i < three + two ? 134 : 145);
                }
                house.draw(321);
                int ofThree = three == 0 ? 0 : 14 / three;
                int ofTwo = two == 0 ? 0 : 4 / two;
                Expect.same(three + " and " + two, house.confirm(), three * ofThree + two * ofTwo);
                Expect.same("pool", house.pool(), 24 - three * ofThree - two * ofTwo);
                Expect.same("three right", ofThree == 0 ? 0 : house.claim(0), three * ofThree);
                Expect.same("two right", ofTwo == 0 ? 0 : house.claim(1), two * ofTwo);
            }
        }
        for (int sold = 1; sold <= 12; sold++) {
            ShoeHouse house = TWO.get();
            for (int i = 0; i < sold; i++) {
                house.ticket(i == 0 ? 0 : 1, i == 0 ? 123 : 789);
            }
            house.draw(123);
            Expect.same("6 tenths of " + 2 * sold, house.confirm(), 12 * sold / 10);
            ShoeHouse tier = TWO.get();
            for (int i = 0; i < sold; i++) {
                tier.ticket(i == 0 ? 0 : 1, i == 0 ? 124 : 789);
            }
            tier.draw(123);
            Expect.same("2 tenths of " + 2 * sold, tier.confirm(), 4 * sold / 10);
        }
        Doc.term("the rest stays in the pool, also a tier that nobody has.");
        ShoeHouse house = withTickets(789, 789, 789, 789, 789);
        house.draw(123);
        Expect.same("nobody", house.confirm(), 0);
        Expect.same("all stays", house.pool(), 10);
        house.ticket(0, 124);
        house.draw(123);
        Expect.same("2 tenths of 12", house.confirm(), 2);
        Expect.same("6 tenths stay", house.pool(), 10);
        house.ticket(1, 123);
        house.draw(123);
        Expect.same("6 tenths of 12", house.confirm(), 7);
        Expect.same("the rest stays", house.pool(), 5);
    }

    private static ShoeHouse withPrize() {
        ShoeHouse house = withTickets(123, 123, 123, 123, 123);
        house.draw(123);
        Expect.same("6 tenths of 10 by 5", house.confirm(), 5);
        return house;
    }

    private static void dates() {
        Doc.term("Prizes are claimed until the third day behind that;");
        for (int days = 0; days <= 3; days++) {
            Expect.same("day " + days, Scene.later(withPrize(), days).claim(0), 5);
        }
        for (int days = 4; days <= 9; days++) {
            ShoeHouse late = Scene.later(withPrize(), days);
            Expect.none(late, "day " + days, () -> late.claim(0));
        }
        ShoeHouse drawn = withTickets(123, 123, 123, 123, 123);
        drawn.draw(123);
        drawn.pass(5);
        drawn.confirm();
        drawn.pass(3);
        Expect.same("behind the day that it was confirmed", drawn.claim(0), 5);
        Doc.term("what is not claimed by then goes into the pool.");
        for (int days = 0; days <= 9; days++) {
            Expect.same("pool of day " + days, Scene.later(withPrize(), days).pool(), days < 4 ? 5 : 10);
        }
        ShoeHouse both = withPrize();
        both.pass(2);
        for (int i = 0; i < 5; i++) {
            both.ticket(1, 456);
        }
        both.draw(456);
        Expect.same("6 tenths of 15 by 5", both.confirm(), 5);
        both.pass(2);
        Expect.same("the first ones", both.pool(), 10 + 5);
        Expect.none(both, "the first ones", () -> both.claim(0));
        Expect.same("not the later ones", both.claim(1), 5);
        both.pass(2);
        Expect.same("they were claimed", both.pool(), 15);
        Expect.same("all at once", Scene.later(withPrize(), 30).pool(), 10);
    }

    private static void nextDraws() {
        Doc.term("Tickets are for the next draw alone;");
        ShoeHouse house = withTickets(123, 456);
        house.draw(789);
        house.confirm();
        Expect.same("not for the one behind it", house.draw(123), 0);
        house.confirm();
        house.ticket(1, 456);
        Expect.same("one for this draw", house.draw(456), 1);
        house.confirm();
        Expect.none(house, "not the first one's", () -> house.claim(0));
        Doc.term("at most 12 are sold for one.");
        for (int draw = 0; draw < 3; draw++) {
            for (int i = 1; i <= 12; i++) {
                Expect.same("sold", house.ticket(i % 2, 123), i);
            }
            Expect.state(house, "the thirteenth", () -> house.ticket(0, 123));
            house.draw(789);
            house.confirm();
        }
    }
}
