/** Promises 1 to 11: the new house, guests, chips, limits, bars, days, fills, credits and shifts. */
public final class GuestsTest {
    private GuestsTest() {
    }

    public static void main(String[] args) {
        newHouse();
        addingGuests();
        buyingIn();
        emptyVault();
        reporting();
        cashingOut();
        limits();
        limitsOfLaterDays();
        limitsThatWait();
        barDays();
        barBringsStakesBack();
        barLeavesTheFirstWager();
        barTakesSpins();
        barTakesTicketsAndPrizes();
        barredMayNotStake();
        passing();
        filling();
        crediting();
        shifts();
        winOfMachineAndCards();
        Expect.end(GuestsTest.class);
    }

    private static void newHouse() {
        ShoeHouse house = new ShoeHouse();
        Expect.same("day", house.day(), 0);
        Expect.same("vault", house.vault(), 100000);
        Expect.same("pot", house.pot(), 0);
        Expect.same("pool", house.pool(), 0);
        Expect.same("count", house.count(), 0);
        Expect.same("broken", house.broken(), 0);
        for (int table = 0; table < 3; table++) {
            Expect.same("tray", house.tray(table), 0);
            Expect.same("win", house.win(table), 0);
        }
        for (int rank = 1; rank <= 10; rank++) {
            Expect.same("left", house.left(rank), 0);
        }
        Expect.index(house, "no guest", () -> house.money(0));
        Expect.state(house, "no round", house::turn);
        Expect.none(house, "no dealer", () -> house.dealerAt(0));
        Expect.index(house, "no hand", () -> house.cardAt(0, 0, 0));
        Expect.same("sound", house.isSound(), true);
    }

    private static void addingGuests() {
        ShoeHouse house = new ShoeHouse();
        Expect.argument(house, "guest(-1)", () -> house.guest(-1));
        Expect.argument(house, "guest(100000)", () -> house.guest(100000));
        for (int i = 0; i < 8; i++) {
            Expect.same("guest", house.guest(i == 1 ? 0 : 99999 - i), i);
        }
        Expect.state(house, "the ninth", () -> house.guest(5));
        Expect.argument(house, "the ninth with too much", () -> house.guest(100000));
        Expect.same("money", house.money(0), 99999);
        Expect.same("money", house.money(1), 0);
        Expect.same("money", house.money(7), 99992);
        Expect.same("chips", house.chips(7), 0);
        Expect.index(house, "money(8)", () -> house.money(8));
    }

    private static void buyingIn() {
        ShoeHouse house = new ShoeHouse();
        house.guest(10500);
        house.guest(3);
        Expect.same("buyIn", house.buyIn(0, 1), 1);
        Expect.same("buyIn", house.buyIn(0, 9999), 10000);
        Expect.same("money", house.money(0), 500);
        Expect.same("vault", house.vault(), 90000);
        Expect.index(house, "buyIn(2)", () -> house.buyIn(2, 1));
        Expect.index(house, "buyIn(-1, 0)", () -> house.buyIn(-1, 0));
        Expect.argument(house, "buyIn 0", () -> house.buyIn(0, 0));
        Expect.argument(house, "buyIn -5", () -> house.buyIn(0, -5));
        Expect.argument(house, "buyIn 10000", () -> house.buyIn(0, 10000));
        Expect.unsupported(house, "buyIn of more", () -> house.buyIn(0, 501));
        Expect.unsupported(house, "buyIn of the poor", () -> house.buyIn(1, 4));
        Expect.same("buyIn of all", house.buyIn(1, 3), 3);
        Expect.same("sound", house.isSound(), true);
    }

    private static void emptyVault() {
        ShoeHouse house = new ShoeHouse();
        house.guest(99999);
        house.guest(99999);
        for (int i = 0; i < 10; i++) {
            house.buyIn(0, 9999);
        }
        Expect.same("vault", house.vault(), 10);
        Expect.unsupported(house, "buyIn of more than the vault has", () -> house.buyIn(1, 11));
        Expect.unsupported(house, "fill of more than the vault has", () -> house.fill(0, 11));
        Expect.same("fill of all that the vault has", house.fill(0, 10), 10);
        Expect.same("and back", house.credit(0, 10), 0);
        Expect.same("buyIn of the last", house.buyIn(1, 10), 10);
        Expect.same("vault", house.vault(), 0);
        Expect.unsupported(house, "fill from an empty vault", () -> house.fill(2, 1));
    }

    private static void reporting() {
        ShoeHouse house = new ShoeHouse();
        house.guest(9000);
        house.guest(9000);
        house.buyIn(0, 999);
        Expect.same("999", house.reports(0), 0);
        house.buyIn(0, 1);
        Expect.same("1000 in all", house.reports(0), 1);
        house.buyIn(0, 1000);
        Expect.same("once a day", house.reports(0), 1);
        Expect.same("not the other one", house.reports(1), 0);
        house.cashOut(0, 2000);
        Expect.same("money brought away is none brought", house.reports(0), 1);
        house.pass(1);
        house.buyIn(0, 999);
        Expect.same("the days do not add", house.reports(0), 1);
        house.buyIn(0, 2);
        Expect.same("the next day", house.reports(0), 2);
        house.pass(3);
        house.buyIn(1, 1000);
        Expect.same("at once", house.reports(1), 1);
        Expect.index(house, "reports(2)", () -> house.reports(2));
        Expect.index(house, "reports(-1)", () -> house.reports(-1));
    }

    private static void cashingOut() {
        ShoeHouse house = Scene.withGuests(1, 500);
        Expect.same("cashOut", house.cashOut(0, 1), 8501);
        Expect.same("chips", house.chips(0), 499);
        Expect.same("vault", house.vault(), 99501);
        Expect.unsupported(house, "cashOut of more", () -> house.cashOut(0, 500));
        Expect.argument(house, "cashOut 0", () -> house.cashOut(0, 0));
        Expect.argument(house, "cashOut 100000", () -> house.cashOut(0, 100000));
        Expect.unsupported(house, "cashOut 99999", () -> house.cashOut(0, 99999));
        Expect.index(house, "cashOut(1, 0)", () -> house.cashOut(1, 0));
        Expect.same("cashOut of all", house.cashOut(0, 499), 9000);
        Expect.same("chips", house.chips(0), 0);
        Expect.same("sound", house.isSound(), true);
    }

    private static void limits() {
        ShoeHouse house = Scene.withGuests(1, 7000);
        Expect.index(house, "limit(1)", () -> house.limit(1, 9999));
        Expect.argument(house, "limit -1", () -> house.limit(0, -1));
        Expect.argument(house, "limit 5001", () -> house.limit(0, 5001));
        for (int i = 0; i < 10; i++) {
            house.wager(0, 'n', 1, 499);
        }
        Expect.same("all lost", house.spin(2), 0);
        Expect.same("staked", house.staked(0), 4990);
        Expect.unsupported(house, "above 5000", () -> house.wager(0, 'r', 0, 11));
        Expect.same("wager up to 5000", house.wager(0, 'r', 0, 10), 1);
        Expect.same("it comes back", house.spin(1), 20);
        Expect.unsupported(house, "what comes back counts too", () -> house.pull(0, 1));
        Expect.same("limit", house.limit(0, 5000), 5000);
        house.pass(1);
        Expect.same("staked", house.staked(0), 0);
        Expect.same("a lower one at once", house.limit(0, 50), 50);
        Expect.unsupported(house, "bet above", () -> house.bet(0, 0, 51));
        Expect.same("bet up to it", house.bet(0, 0, 50), 1970);
        Expect.same("lower than what is staked", house.limit(0, 0), 0);
        Expect.same("staked", house.staked(0), 50);
        Expect.unsupported(house, "ticket", () -> house.ticket(0, 123));
    }

    private static void limitsOfLaterDays() {
        ShoeHouse house = Scene.withGuests(1, 9000);
        house.pass(1);
        for (int i = 0; i < 10; i++) {
            house.wager(0, 'n', 1, 500);
        }
        Expect.same("5000 in a day", house.staked(0), 5000);
        house.spin(2);
        Expect.unsupported(house, "no more on a later day", () -> house.wager(0, 'r', 0, 1));
    }

    private static void limitsThatWait() {
        ShoeHouse house = Scene.withGuests(2, 1000);
        house.limit(0, 100);
        Expect.same("a higher one waits", house.limit(0, 300), 100);
        Expect.unsupported(house, "today", () -> house.bet(0, 0, 101));
        house.pass(1);
        Expect.same("from the next day on", house.bet(0, 0, 300), 700);
        Expect.unsupported(house, "no more than that", () -> house.pull(0, 1));
        Expect.same("higher", house.limit(0, 400), 300);
        Expect.same("a lower one ends the wait", house.limit(0, 200), 200);
        house.pass(1);
        Expect.unsupported(house, "the waiting one is gone", () -> house.wager(0, 'r', 0, 201));
        Expect.same("higher", house.limit(0, 4000), 200);
        Expect.same("another higher one", house.limit(0, 250), 200);
        house.pass(2);
        Expect.unsupported(house, "the last one told holds", () -> house.wager(0, 'r', 0, 251));
        Expect.same("wager", house.wager(0, 'r', 0, 250), 1);
        Expect.same("higher", house.limit(0, 300), 250);
        Expect.same("the same one ends the wait", house.limit(0, 250), 250);
        house.pass(1);
        Expect.unsupported(house, "still the same", () -> house.wager(0, 'r', 0, 251));
        Expect.same("the other guest has 5000", house.limit(1, 5000), 5000);
    }

    private static void barDays() {
        ShoeHouse house = Scene.withGuests(1, 100);
        Expect.index(house, "bar(1)", () -> house.bar(1, -1));
        Expect.argument(house, "today", () -> house.bar(0, 0));
        Expect.argument(house, "before", () -> house.bar(0, -3));
        Expect.argument(house, "1000", () -> house.bar(0, 1000));
        Expect.same("not barred", house.isBarred(0), false);
        Expect.same("bar", house.bar(0, 3), 0);
        Expect.same("barred", house.isBarred(0), true);
        Expect.argument(house, "earlier than told", () -> house.bar(0, 2));
        Expect.same("the same day", house.bar(0, 3), 0);
        house.pass(2);
        Expect.same("the day before", house.isBarred(0), true);
        Expect.unsupported(house, "may not stake", () -> house.bet(0, 0, 2));
        house.pass(1);
        Expect.same("that day", house.isBarred(0), false);
        Expect.same("stakes again", house.bet(0, 0, 2), 98);
        Expect.argument(house, "today again", () -> house.bar(0, 3));
        Expect.same("comes back", house.bar(0, 999), 2);
        Expect.same("later is all right", house.bar(0, 999), 0);
        Expect.index(house, "isBarred(1)", () -> house.isBarred(1));
        Expect.index(house, "isBarred(-1)", () -> house.isBarred(-1));
        Expect.same("a barred guest may still buy", house.buyIn(0, 5), 105);
        Expect.same("and cash", house.cashOut(0, 105), 9000);
    }

    private static void barBringsStakesBack() {
        ShoeHouse house = Scene.withGuests(2, 1000);
        house.bet(0, 0, 10);
        house.bet(1, 1, 20);
        house.bet(2, 0, 30);
        house.wager(0, 'r', 0, 5);
        house.wager(1, 'n', 9, 6);
        house.wager(0, 'd', 1, 7);
        house.wager(1, 'b', 1, 8);
        house.pull(0, 40);
        Expect.same("chips", house.chips(0), 908);
        Expect.same("comes back", house.bar(0, 5), 92);
        Expect.same("chips", house.chips(0), 1000);
        Expect.same("what was staked counts still", house.staked(0), 92);
        Expect.same("chips of the other", house.chips(1), 966);
        Expect.state(house, "the spin is gone", () -> house.stop(0));
        Expect.same("the seat is free", house.bet(0, 1, 2), 964);
        Expect.unsupported(house, "the other's seat is not", () -> house.bet(1, 1, 2));
        Expect.same("two wagers are left", house.wager(1, 'r', 0, 1), 3);
        Expect.same("those of the other, in their order", house.spin(9), 6 * 36 + 2);
        Expect.same("tray", house.tray(1), 7);
        Expect.same("vault", house.vault(), 98000 - 6 * 35);
        Expect.same("sound", house.isSound(), true);
        house.wager(1, 'n', 9, 3);
        Expect.same("the first wager is no other's", house.bar(1, 5), 25);
        Expect.same("nothing is left", house.spin(9), 0);
    }

    private static void barLeavesTheFirstWager() {
        ShoeHouse house = Scene.withGuests(2, 1000);
        house.wager(1, 'n', 9, 6);
        house.wager(0, 'n', 9, 5);
        house.wager(1, 'n', 8, 4);
        Expect.same("comes back", house.bar(0, 5), 5);
        Expect.same("the first wager stays", house.spin(9), 6 * 36);
        Expect.same("the last one too", house.tray(1), 4);
        Expect.same("sound", house.isSound(), true);
    }

    private static void barTakesSpins() {
        ShoeHouse house = Scene.withGuests(2, 1000);
        house.pull(0, 40);
        house.tilt();
        Expect.same("another guest has nothing there", house.bar(1, 1), 0);
        Expect.same("a tilted spin comes back", house.bar(0, 1), 40);
        Expect.state(house, "nothing to recover", house::recover);
        house.pass(1);
        Expect.same("the machine is free", house.pull(1, 3), 997);
        Expect.same("not the spin of another", house.bar(0, 2), 0);
        Expect.same("it goes on", house.tilt(), 3);
        Expect.same("recover", house.recover(), 1000);
        Expect.same("the pot got nothing", house.pot(), 0);
        Expect.same("the tray got nothing", house.tray(2), 0);
    }

    private static void barTakesTicketsAndPrizes() {
        ShoeHouse house = Scene.withGuests(2, 100);
        house.ticket(0, 123);
        house.ticket(1, 321);
        Expect.same("two right", house.draw(213), 2);
        Expect.same("6 tenths of 4", house.confirm(), 2);
        house.ticket(0, 456);
        house.ticket(1, 456);
        Expect.same("pool", house.pool(), 6);
        Expect.same("draw", house.draw(654), 2);
        Expect.same("nothing comes back", house.bar(0, 2), 0);
        Expect.same("the prize goes into the pool", house.pool(), 7);
        Expect.none(house, "no prize", () -> house.claim(0));
        Expect.same("recast", house.draw(645), 1);
        Expect.same("6 tenths of 7", house.confirm(), 4);
        Expect.same("both prizes", house.claim(1), 5);
        Expect.none(house, "no prize still", () -> house.claim(0));
        house.pass(2);
        house.ticket(0, 789);
        Expect.same("bar", house.bar(0, 3), 0);
        house.pass(1);
        Expect.same("the void one is counted", house.ticket(0, 987), 2);
        Expect.same("but is not right", house.draw(789), 1);
        Expect.same("chips", house.chips(0), 92);
        Expect.same("sound", house.isSound(), true);
    }

    private static void barredMayNotStake() {
        ShoeHouse house = Scene.withGuests(2, 100);
        house.bar(0, 1);
        Expect.unsupported(house, "bet", () -> house.bet(0, 0, 2));
        Expect.unsupported(house, "wager", () -> house.wager(0, 'r', 0, 1));
        Expect.unsupported(house, "pull", () -> house.pull(0, 1));
        Expect.unsupported(house, "ticket", () -> house.ticket(0, 123));
        Expect.same("the other may", house.bet(0, 1, 2), 98);
    }

    private static void passing() {
        ShoeHouse house = Scene.withGuests(1, 1000);
        Expect.argument(house, "0 days", () -> house.pass(0));
        Expect.argument(house, "31 days", () -> house.pass(31));
        Expect.same("1 day", house.pass(1), 1);
        Expect.same("30 days", house.pass(30), 31);
        Expect.same("day", house.day(), 31);
        house.pull(0, 10);
        Expect.state(house, "a spin goes on", () -> house.pass(1));
        Expect.argument(house, "a spin goes on, 31", () -> house.pass(31));
        house.tilt();
        Expect.same("a tilted spin does not go on", house.pass(1), 32);
        Expect.same("staked anew", house.staked(0), 0);
        Expect.same("recover", house.recover(), 1000);
        house.bet(0, 0, 500);
        house.wager(0, 'r', 0, 5);
        Expect.same("stakes may wait", house.pass(1), 33);
        Expect.same("they lie there", house.chips(0), 495);
        house.lay(1);
        house.deal();
        Expect.state(house, "a round goes on", () -> house.pass(1));
        house.stand(0);
        for (int i = 0; i < 33; i++) {
            house.pass(30);
        }
        Expect.same("day", house.day(), 1023);
        Expect.argument(house, "no later day to be barred until", () -> house.bar(0, 999));
        Expect.argument(house, "nor this", () -> house.bar(0, 1024));
    }

    private static void filling() {
        ShoeHouse house = new ShoeHouse();
        Expect.index(house, "fill(3)", () -> house.fill(3, 0));
        Expect.index(house, "fill(-1)", () -> house.fill(-1, 5));
        Expect.argument(house, "fill 0", () -> house.fill(0, 0));
        Expect.argument(house, "fill 10000", () -> house.fill(0, 10000));
        Expect.same("fill", house.fill(0, 1), 1);
        Expect.same("fill", house.fill(0, 9999), 10000);
        Expect.same("fill", house.fill(2, 7), 7);
        Expect.same("tray", house.tray(0), 10000);
        Expect.same("tray", house.tray(1), 0);
        Expect.same("vault", house.vault(), 89993);
        Expect.same("a fill is no win", house.win(0), 0);
        Expect.index(house, "tray(3)", () -> house.tray(3));
        Expect.index(house, "tray(-1)", () -> house.tray(-1));
    }

    private static void crediting() {
        ShoeHouse house = new ShoeHouse();
        house.fill(1, 9999);
        house.fill(1, 2);
        Expect.index(house, "credit(3)", () -> house.credit(3, 0));
        Expect.index(house, "credit(-1)", () -> house.credit(-1, 5));
        Expect.argument(house, "credit 0", () -> house.credit(1, 0));
        Expect.argument(house, "credit 10000", () -> house.credit(1, 10000));
        Expect.unsupported(house, "credit of none", () -> house.credit(0, 1));
        Expect.same("credit", house.credit(1, 9999), 2);
        Expect.unsupported(house, "credit of more", () -> house.credit(1, 3));
        Expect.same("credit", house.credit(1, 2), 0);
        Expect.same("vault", house.vault(), 100000);
        Expect.same("a credit is no loss", house.win(1), 0);
        Expect.same("sound", house.isSound(), true);
    }

    private static void shifts() {
        ShoeHouse house = Scene.withGuests(1, 1000);
        Expect.same("nothing won", house.shift(), 0);
        house.fill(1, 100);
        house.wager(0, 'r', 0, 30);
        house.spin(2);
        Expect.same("30 won", house.win(1), 30);
        house.credit(1, 50);
        Expect.same("30 still", house.win(1), 30);
        house.wager(0, 'n', 5, 4);
        house.spin(5);
        Expect.same("140 paid of 80", house.tray(1), 0);
        Expect.same("the vault pays the rest", house.vault(), 99000 - 50 - 60);
        Expect.same("the loss", house.win(1), -110);
        house.pull(0, 25);
        house.stop(0);
        Expect.same("the machine", house.win(2), 23);
        Expect.same("of all", house.shift(), -87);
        Expect.same("anew", house.win(1), 0);
        Expect.same("anew", house.win(2), 0);
        Expect.same("the tray stays", house.tray(2), 23);
        Expect.same("no win", house.shift(), 0);
        Expect.index(house, "win(3)", () -> house.win(3));
        Expect.index(house, "win(-1)", () -> house.win(-1));
    }

    private static void winOfMachineAndCards() {
        ShoeHouse house = Scene.withGuests(1, 1000);
        house.fill(0, 10);
        house.shift();
        house.credit(0, 4);
        house.fill(0, 9);
        house.bet(0, 0, 20);
        Scene.lay(house, 1, "34 15");
        house.deal();
        Expect.same("the dealer's natural wins", house.win(0), 20);
        Expect.same("tray", house.tray(0), 35);
        Expect.same("shift", house.shift(), 20);
    }
}
