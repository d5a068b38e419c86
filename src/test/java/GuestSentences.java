import java.util.function.Supplier;

/** The sentences of the promises 1 to 11: the new house, guests, chips, limits, bars, days, fills, credits, shifts. */
final class GuestSentences {
    private static final String NO_GUEST = "Throws `IndexOutOfBoundsException` if there is no such guest";
    private static final String NO_TABLE = "Throws `IndexOutOfBoundsException` if there is no such table";
    private static final String NO_RANGE = "Throws `IllegalArgumentException` if a number is out of range";
    private static final String GUEST = "- `guest`: the guest";
    private static final String TABLE = "- `table`: 0 cards, 1 the wheel, 2 the machine";
    private static final Supplier<ShoeHouse> THREE = () -> Scene.withGuests(3, 500);
    private static final Supplier<ShoeHouse> EIGHT = () -> Scene.withGuests(8, 500);
    private static final Supplier<ShoeHouse> FILLED = GuestSentences::filled;

    private GuestSentences() {
    }

    static void run() {
        newHouse();
        guest();
        buyIn();
        buyInRefused();
        cashOut();
        limit();
        bar();
        barRefused();
        pass();
        passRefused();
        fill();
        credit();
        shift();
        win();
    }

    private static ShoeHouse filled() {
        ShoeHouse house = Scene.withGuests(1, 500);
        for (int table = 0; table < 3; table++) {
            house.fill(table, 9999);
            house.fill(table, 2);
        }
        return house;
    }

    private static void newHouse() {
        Doc.says(1, "Creates a house without guests.");
        Expect.index(new ShoeHouse(), "no guest 0", () -> new ShoeHouse().money(0));
        Expect.arithmetic(new ShoeHouse(), "no share of guests", () -> new ShoeHouse().barredShare());
        Expect.arithmetic(new ShoeHouse(), "no mean of guests", () -> new ShoeHouse().meanChips());
        ShoeHouse house = new ShoeHouse();
        Expect.same("the first guest", house.guest(5), 0);
        Expect.same("each house has its own", new ShoeHouse().guest(6), 0);
        Expect.same("money", house.money(0), 5);
    }

    private static void guest() {
        Doc.says(2, "Adds a guest.");
        ShoeHouse house = new ShoeHouse();
        house.guest(7);
        Expect.same("money", house.money(0), 7);
        Expect.same("chips", house.chips(0), 0);
        Expect.index(house, "no other", () -> house.money(1));
        Doc.says(2, "- `money`: 0 to 99999");
        Refusal.arguments(ShoeHouse::new, 0, 99999, ShoeHouse::guest);
        Doc.says(2, "Returns the number.");
        for (int number = 0; number < 8; number++) {
            ShoeHouse many = Scene.withGuests(number, 1);
            Expect.same("number", many.guest(100 + number), number);
            Expect.same("it is this guest's", many.money(number), 100 + number);
        }
        Doc.says(2, NO_RANGE);
        Refusal.argument("-1", THREE, h -> h.guest(-1));
        Refusal.argument("100000", THREE, h -> h.guest(100000));
        Doc.says(2, "Throws `IllegalStateException` if there are 8");
        Refusal.taken("the eighth", () -> Scene.withGuests(7, 1), h -> h.guest(0));
        Refusal.state("the ninth", EIGHT, h -> h.guest(0));
        Refusal.state("the ninth", EIGHT, h -> h.guest(99999));
        Doc.order(2, Doc.ARGUMENT, Doc.STATE);
        Refusal.argument("the ninth, -1", EIGHT, h -> h.guest(-1));
        Refusal.argument("the ninth, 100000", EIGHT, h -> h.guest(100000));
    }

    private static ShoeHouse withMoney(int money) {
        ShoeHouse house = new ShoeHouse();
        house.guest(money);
        return house;
    }

    private static void buyIn() {
        Doc.says(3, "Changes money to chips.");
        ShoeHouse house = Scene.withGuests(2, 500);
        house.buyIn(1, 40);
        Expect.same("money", house.money(1), 8460);
        Expect.same("chips", house.chips(1), 540);
        Expect.same("vault", house.vault(), 98960);
        Expect.same("the other's money", house.money(0), 8500);
        Expect.same("it is no stake", house.staked(1), 0);
        Doc.says(3, GUEST);
        Refusal.indexes(THREE, 0, 2, (h, guest) -> h.buyIn(guest, 1));
        Refusal.indexes(EIGHT, 0, 7, (h, guest) -> h.buyIn(guest, 1));
        Doc.says(3, "- `coins`: 1 to 9999");
        Refusal.arguments(() -> withMoney(9999), 1, 9999, (h, coins) -> h.buyIn(0, coins));
        Doc.says(3, "Returns the chips of the guest.");
        ShoeHouse other = withMoney(10000);
        Expect.same("1", other.buyIn(0, 1), 1);
        Expect.same("and 9999", other.buyIn(0, 9999), 10000);
        Expect.same("all money", other.money(0), 0);
    }

    private static void buyInRefused() {
        Doc.says(3, NO_GUEST);
        Refusal.index("no guests", ShoeHouse::new, h -> h.buyIn(0, 1));
        Refusal.index("a guest too many", THREE, h -> h.buyIn(3, 1));
        Refusal.index("-1", THREE, h -> h.buyIn(-1, 1));
        Doc.says(3, NO_RANGE);
        Refusal.argument("0", THREE, h -> h.buyIn(2, 0));
        Refusal.argument("10000", () -> withMoney(99999), h -> h.buyIn(0, 10000));
        Doc.says(3, "Throws `UnsupportedOperationException` if the guest has not so much, or the vault has not");
        Refusal.taken("all money", () -> withMoney(50), h -> h.buyIn(0, 50));
        Refusal.unsupported("a coin more", () -> withMoney(50), h -> h.buyIn(0, 51));
        Refusal.unsupported("no money", () -> withMoney(0), h -> h.buyIn(0, 1));
        Refusal.taken("all of the vault", () -> Scene.withVault(10), h -> h.buyIn(1, 10));
        Refusal.unsupported("more than the vault has", () -> Scene.withVault(10), h -> h.buyIn(1, 11));
        Refusal.unsupported("the vault has none", () -> Scene.withVault(0), h -> h.buyIn(1, 1));
        Refusal.unsupported("the vault has less than 0", Scene::withVaultBelowNone, h -> h.buyIn(1, 1));
        Doc.order(3, Doc.INDEX, Doc.ARGUMENT);
        Refusal.index("no guest, 0", THREE, h -> h.buyIn(3, 0));
        Refusal.index("no guest, 10000", THREE, h -> h.buyIn(-1, 10000));
        Doc.order(3, Doc.INDEX, Doc.UNSUPPORTED);
        Refusal.index("no guest, no chips", () -> Scene.withVault(0), h -> h.buyIn(2, 1));
        Doc.order(3, Doc.ARGUMENT, Doc.UNSUPPORTED);
        Refusal.argument("10000 of 50", () -> withMoney(50), h -> h.buyIn(0, 10000));
        Refusal.argument("10000 of no chips", () -> Scene.withVault(0), h -> h.buyIn(1, 10000));
    }

    private static ShoeHouse withAllChips() {
        ShoeHouse house = Scene.withVault(1);
        Expect.same("a guest with 99999 chips", house.chips(0), 99999);
        return house;
    }

    private static void cashOut() {
        Doc.says(4, "Changes chips to money.");
        ShoeHouse house = Scene.withGuests(2, 500);
        house.cashOut(1, 40);
        Expect.same("money", house.money(1), 8540);
        Expect.same("chips", house.chips(1), 460);
        Expect.same("vault", house.vault(), 99040);
        Expect.same("the other's chips", house.chips(0), 500);
        Doc.says(4, GUEST);
        Refusal.indexes(THREE, 0, 2, (h, guest) -> h.cashOut(guest, 1));
        Refusal.indexes(EIGHT, 0, 7, (h, guest) -> h.cashOut(guest, 500));
        Doc.says(4, "- `chips`: 1 to 99999");
        Refusal.arguments(GuestSentences::withAllChips, 1, 99999, (h, chips) -> h.cashOut(0, chips));
        Doc.says(4, "Returns the money of the guest.");
        Expect.same("1", Scene.withGuests(1, 500).cashOut(0, 1), 8501);
        Expect.same("all", withAllChips().cashOut(0, 99999), 99999);
        Doc.says(4, NO_GUEST);
        Refusal.index("no guests", ShoeHouse::new, h -> h.cashOut(0, 1));
        Refusal.index("a guest too many", THREE, h -> h.cashOut(3, 1));
        Refusal.index("-1", THREE, h -> h.cashOut(-1, 1));
        Doc.says(4, NO_RANGE);
        Refusal.argument("0", THREE, h -> h.cashOut(2, 0));
        Refusal.argument("100000", GuestSentences::withAllChips, h -> h.cashOut(0, 100000));
        Doc.says(4, "Throws `UnsupportedOperationException` if the guest has not so many");
        Refusal.taken("all chips", THREE, h -> h.cashOut(1, 500));
        Refusal.unsupported("a chip more", THREE, h -> h.cashOut(1, 501));
        Refusal.unsupported("no chips", () -> withMoney(9), h -> h.cashOut(0, 1));
        Refusal.unsupported("99999", THREE, h -> h.cashOut(1, 99999));
        Doc.order(4, Doc.INDEX, Doc.ARGUMENT);
        Refusal.index("no guest, 0", THREE, h -> h.cashOut(3, 0));
        Refusal.index("no guest, 100000", THREE, h -> h.cashOut(-1, 100000));
        Doc.order(4, Doc.INDEX, Doc.UNSUPPORTED);
        Refusal.index("no guest, no chips", () -> withMoney(9), h -> h.cashOut(1, 1));
        Doc.order(4, Doc.ARGUMENT, Doc.UNSUPPORTED);
        Refusal.argument("100000 of 500", THREE, h -> h.cashOut(0, 100000));
    }

    private static void limit() {
        Doc.says(5, "Tells a limit.");
        ShoeHouse house = Scene.withGuests(2, 500);
        house.limit(1, 30);
        Expect.same("up to it", house.wager(1, 'r', 0, 30), 1);
        Expect.unsupported(house, "above it", () -> house.wager(1, 'r', 0, 1));
        Expect.same("not the other's", house.wager(0, 'r', 0, 31), 2);
        Doc.says(5, GUEST);
        Refusal.indexes(THREE, 0, 2, (h, guest) -> h.limit(guest, 5));
        Refusal.indexes(EIGHT, 0, 7, (h, guest) -> h.limit(guest, 5));
        Doc.says(5, "- `chips`: 0 to 5000");
        Refusal.arguments(THREE, 0, 5000, (h, chips) -> h.limit(1, chips));
        Doc.says(5, "Returns the limit that holds today.");
        ShoeHouse told = Scene.withGuests(1, 500);
        Expect.same("the same", told.limit(0, 5000), 5000);
        Expect.same("a lower one", told.limit(0, 4999), 4999);
        Expect.same("a higher one", told.limit(0, 5000), 4999);
        Expect.same("the lowest", told.limit(0, 0), 0);
        Expect.same("a higher one", told.limit(0, 1), 0);
        told.pass(1);
        Expect.same("the next day", told.limit(0, 9), 1);
        Doc.says(5, NO_GUEST);
        Refusal.index("no guests", ShoeHouse::new, h -> h.limit(0, 5));
        Refusal.index("a guest too many", THREE, h -> h.limit(3, 5));
        Refusal.index("-1", THREE, h -> h.limit(-1, 5));
        Doc.says(5, NO_RANGE);
        Refusal.argument("-1", THREE, h -> h.limit(0, -1));
        Refusal.argument("5001", THREE, h -> h.limit(0, 5001));
        Doc.order(5, Doc.INDEX, Doc.ARGUMENT);
        Refusal.index("no guest, -1", THREE, h -> h.limit(3, -1));
        Refusal.index("no guest, 5001", THREE, h -> h.limit(-1, 5001));
    }

    private static ShoeHouse barredUntil(int until) {
        ShoeHouse house = Scene.withGuests(3, 500);
        house.bar(0, until);
        return house;
    }

    private static void bar() {
        Doc.says(6, "Bars a guest; not to an earlier day than told before.");
        ShoeHouse house = barredUntil(5);
        Expect.same("barred", house.isBarred(0), true);
        Expect.same("not the other", house.isBarred(1), false);
        Refusal.argument("a day earlier", () -> barredUntil(5), h -> h.bar(0, 4));
        Refusal.taken("the same day", () -> barredUntil(5), h -> h.bar(0, 5));
        Refusal.taken("a day later", () -> barredUntil(5), h -> h.bar(0, 6));
        Refusal.taken("another guest", () -> barredUntil(5), h -> h.bar(1, 4));
        house.bar(0, 7);
        Expect.argument(house, "the later day holds", () -> house.bar(0, 6));
        Doc.says(6, GUEST);
        Refusal.indexes(THREE, 0, 2, (h, guest) -> h.bar(guest, 1));
        Refusal.indexes(EIGHT, 0, 7, (h, guest) -> h.bar(guest, 1));
        Doc.says(6, "- `until`: the day, later than today, to 999");
        Refusal.arguments(THREE, 1, 999, (h, until) -> h.bar(0, until));
        Refusal.arguments(() -> Scene.later(THREE.get(), 31), 32, 999, (h, until) -> h.bar(0, until));
        Refusal.arguments(() -> Scene.later(THREE.get(), 998), 999, 999, (h, until) -> h.bar(0, until));
        Doc.says(6, "Returns the chips that come back.");
        Expect.same("none", THREE.get().bar(0, 1), 0);
        ShoeHouse staked = Scene.withGuests(2, 500);
        staked.bet(2, 1, 100);
        staked.wager(1, 'd', 2, 20);
        staked.pull(1, 3);
        Expect.same("all stakes", staked.bar(1, 1), 123);
        Expect.same("once", staked.bar(1, 1), 0);
        Expect.same("chips", staked.chips(1), 500);
    }

    private static void barRefused() {
        Supplier<ShoeHouse> late = () -> Scene.later(THREE.get(), 999);
        Doc.says(6, NO_GUEST);
        Refusal.index("no guests", ShoeHouse::new, h -> h.bar(0, 1));
        Refusal.index("a guest too many", THREE, h -> h.bar(3, 1));
        Refusal.index("-1", THREE, h -> h.bar(-1, 1));
        Doc.says(6, "Throws `IllegalArgumentException` if the day is out of range, or earlier than the one told before");
        Refusal.argument("today", THREE, h -> h.bar(0, 0));
        Refusal.argument("today, later", () -> Scene.later(THREE.get(), 9), h -> h.bar(0, 9));
        Refusal.taken("tomorrow, later", () -> Scene.later(THREE.get(), 9), h -> h.bar(0, 10));
        Refusal.argument("1000", THREE, h -> h.bar(0, 1000));
        Refusal.argument("earlier than told", () -> barredUntil(999), h -> h.bar(0, 998));
        Refusal.taken("the last day", () -> barredUntil(998), h -> h.bar(0, 999));
        Refusal.argument("day 999, no later day", late, h -> h.bar(0, 999));
        Refusal.argument("day 999, 1000", late, h -> h.bar(0, 1000));
        Refusal.argument("the told day is over", () -> Scene.later(barredUntil(5), 5), h -> h.bar(0, 5));
        Refusal.taken("the told day is over", () -> Scene.later(barredUntil(5), 5), h -> h.bar(0, 6));
        Doc.order(6, Doc.INDEX, Doc.ARGUMENT);
        Refusal.index("no guest, today", THREE, h -> h.bar(3, 0));
        Refusal.index("no guest, 1000", THREE, h -> h.bar(-1, 1000));
    }

    private static ShoeHouse inRound() {
        return Scene.dealt(20, Cards.BUSTS);
    }

    private static ShoeHouse spinning() {
        ShoeHouse house = Scene.withGuests(1, 500);
        house.pull(0, 10);
        return house;
    }

    private static void pass() {
        Doc.says(7, "Lets days go by.");
        ShoeHouse house = Scene.withGuests(1, 500);
        house.wager(0, 'r', 0, 9);
        house.pass(2);
        Expect.same("the second day", house.day(), 2);
        Expect.same("nothing is staked that day", house.staked(0), 0);
        Expect.same("the wager stays", house.spin(1), 18);
        Doc.says(7, "- `days`: 1 to 30");
        Refusal.arguments(THREE, 1, 30, ShoeHouse::pass);
        Doc.says(7, "Returns the day.");
        ShoeHouse days = new ShoeHouse();
        Expect.same("1", days.pass(1), 1);
        Expect.same("and 30", days.pass(30), 31);
        Expect.same("behind the last day to be barred until", Scene.later(days, 968).pass(1), 1000);
    }

    private static void passRefused() {
        Doc.says(7, NO_RANGE);
        Refusal.argument("0", THREE, h -> h.pass(0));
        Refusal.argument("31", THREE, h -> h.pass(31));
        Refusal.argument("-1", THREE, h -> h.pass(-1));
        Doc.says(7, "Throws `IllegalStateException` if a round, or a spin goes on");
        Refusal.state("a round goes on", GuestSentences::inRound, h -> h.pass(1));
        Refusal.state("a spin goes on", GuestSentences::spinning, h -> h.pass(1));
        ShoeHouse round = inRound();
        round.stand(0);
        Expect.same("the round is over", round.pass(1), 1);
        ShoeHouse spin = spinning();
        spin.stop(0);
        Expect.same("the spin is over", spin.pass(1), 1);
        ShoeHouse tilted = spinning();
        tilted.tilt();
        Expect.same("a tilt stopped it", tilted.pass(1), 1);
        Expect.same("it can be recovered still", tilted.recover(), 500);
        ShoeHouse staked = Scene.staked(20, Cards.BUSTS);
        Expect.same("a stake is no round", staked.pass(30), 30);
        Expect.same("it waits", staked.deal(), 6);
        ShoeHouse barred = inRound();
        barred.bar(0, 1);
        Expect.same("no hand is left", barred.pass(1), 1);
        Doc.order(7, Doc.ARGUMENT, Doc.STATE);
        Refusal.argument("a round, 0", GuestSentences::inRound, h -> h.pass(0));
        Refusal.argument("a spin, 31", GuestSentences::spinning, h -> h.pass(31));
    }

    private static void fill() {
        Doc.says(8, "Fills a tray from the vault.");
        ShoeHouse house = new ShoeHouse();
        house.fill(1, 70);
        Expect.same("tray", house.tray(1), 70);
        Expect.same("vault", house.vault(), 99930);
        Doc.says(8, TABLE);
        Refusal.indexes(ShoeHouse::new, 0, 2, (h, table) -> h.fill(table, 5));
        ShoeHouse tables = played();
        Expect.same("0 are the cards", tables.fill(0, 1), 21);
        Expect.same("1 is the wheel", tables.fill(1, 1), 1);
        Expect.same("2 is the machine", tables.fill(2, 1), 10);
        Doc.says(8, "- `chips`: 1 to 9999");
        Refusal.arguments(ShoeHouse::new, 1, 9999, (h, chips) -> h.fill(2, chips));
        Doc.says(8, "Returns what the tray has.");
        ShoeHouse other = new ShoeHouse();
        Expect.same("1", other.fill(0, 1), 1);
        Expect.same("and 9999", other.fill(0, 9999), 10000);
        Expect.same("another", other.fill(2, 3), 3);
        Doc.says(8, NO_TABLE);
        Refusal.index("3", THREE, h -> h.fill(3, 5));
        Refusal.index("-1", THREE, h -> h.fill(-1, 5));
        Doc.says(8, NO_RANGE);
        Refusal.argument("0", THREE, h -> h.fill(0, 0));
        Refusal.argument("10000", THREE, h -> h.fill(2, 10000));
        Doc.says(8, "Throws `UnsupportedOperationException` if the vault has not so many");
        Refusal.taken("all", () -> Scene.withVault(10), h -> h.fill(1, 10));
        Refusal.unsupported("a chip more", () -> Scene.withVault(10), h -> h.fill(1, 11));
        Refusal.unsupported("none", () -> Scene.withVault(0), h -> h.fill(1, 1));
        Refusal.unsupported("less than 0", Scene::withVaultBelowNone, h -> h.fill(1, 1));
        Doc.order(8, Doc.INDEX, Doc.ARGUMENT);
        Refusal.index("no table, 0", THREE, h -> h.fill(3, 0));
        Doc.order(8, Doc.INDEX, Doc.UNSUPPORTED);
        Refusal.index("no table, no chips", () -> Scene.withVault(0), h -> h.fill(-1, 1));
        Doc.order(8, Doc.ARGUMENT, Doc.UNSUPPORTED);
        Refusal.argument("10000, no chips", () -> Scene.withVault(0), h -> h.fill(0, 10000));
    }

    private static void credit() {
        Doc.says(9, "Brings chips of a tray to the vault.");
        ShoeHouse house = filled();
        house.credit(1, 70);
        Expect.same("tray", house.tray(1), 9931);
        Expect.same("vault", house.vault(), 99500 - 3 * 10001 + 70);
        Doc.says(9, TABLE);
        Refusal.indexes(FILLED, 0, 2, (h, table) -> h.credit(table, 5));
        ShoeHouse tables = played();
        Expect.same("0 are the cards", tables.credit(0, 1), 19);
        Expect.unsupported(tables, "1 is the wheel", () -> tables.credit(1, 1));
        Expect.same("2 is the machine", tables.credit(2, 1), 8);
        Doc.says(9, "- `chips`: 1 to 9999");
        Refusal.arguments(FILLED, 1, 9999, (h, chips) -> h.credit(2, chips));
        Doc.says(9, "Returns what the tray has.");
        Expect.same("1", filled().credit(0, 1), 10000);
        Expect.same("9999", filled().credit(2, 9999), 2);
        Doc.says(9, NO_TABLE);
        Refusal.index("3", FILLED, h -> h.credit(3, 5));
        Refusal.index("-1", FILLED, h -> h.credit(-1, 5));
        Doc.says(9, NO_RANGE);
        Refusal.argument("0", FILLED, h -> h.credit(0, 0));
        Refusal.argument("10000", FILLED, h -> h.credit(0, 10000));
        Doc.says(9, "Throws `UnsupportedOperationException` if it has not so many");
        Supplier<ShoeHouse> seven = () -> {
            ShoeHouse few = new ShoeHouse();
            few.fill(1, 7);
            return few;
        };
        Refusal.taken("all", seven, h -> h.credit(1, 7));
        Refusal.unsupported("a chip more", seven, h -> h.credit(1, 8));
        Refusal.unsupported("none", seven, h -> h.credit(0, 1));
        Doc.order(9, Doc.INDEX, Doc.ARGUMENT);
        Refusal.index("no table, 0", FILLED, h -> h.credit(3, 0));
        Doc.order(9, Doc.INDEX, Doc.UNSUPPORTED);
        Refusal.index("no table, no chips", ShoeHouse::new, h -> h.credit(-1, 1));
        Doc.order(9, Doc.ARGUMENT, Doc.UNSUPPORTED);
        Refusal.argument("10000 of 7", seven, h -> h.credit(1, 10000));
    }

    /** The house won 20 at the cards, lost 30 at the wheel and won 9 at the machine. */
    private static ShoeHouse played() {
        ShoeHouse house = Scene.dealt(20, Cards.BUSTS);
        house.hit(0);
        house.wager(0, 'r', 0, 30);
        house.spin(1);
        house.pull(0, 10);
        house.stop(0);
        return house;
    }

    private static void shift() {
        Doc.says(10, "Begins a shift at all tables.");
        ShoeHouse house = played();
        house.shift();
        for (int table = 0; table < 3; table++) {
            Expect.same("no win yet", house.win(table), 0);
        }
        Expect.same("the trays stay", house.tray(0) + house.tray(2), 29);
        Doc.says(10, "Returns the win of the shift before, of all.");
        Expect.same("none", new ShoeHouse().shift(), 0);
        Expect.same("20 - 30 + 9", played().shift(), -1);
        Expect.same("not twice", house.shift(), 0);
        house.wager(0, 'r', 0, 8);
        house.spin(2);
        Expect.same("of the shift before alone", house.shift(), 8);
    }

    private static void win() {
        Doc.says(11, "Returns the win of a table in this shift.", TABLE);
        ShoeHouse house = played();
        Expect.same("cards", house.win(0), 20);
        Expect.same("machine", house.win(2), 9);
        Refusal.indexes(GuestSentences::played, 0, 2, ShoeHouse::win);
        Doc.says(11, "Returns the win, perhaps below 0.");
        Expect.same("wheel", house.win(1), -30);
        Expect.same("none", new ShoeHouse().win(1), 0);
        Doc.says(11, NO_TABLE);
        Refusal.index("3", GuestSentences::played, h -> h.win(3));
        Refusal.index("-1", GuestSentences::played, h -> h.win(-1));
    }
}
