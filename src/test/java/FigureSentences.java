import java.lang.reflect.Field;
import java.math.BigInteger;
import java.util.function.Supplier;

/** The sentences of the promises 52 to 66: what is asked, and figures. */
final class FigureSentences {
    private static final String NO_GUEST = "Throws `IndexOutOfBoundsException` if there is no such guest";
    private static final String GUEST = "- `guest`: the guest";
    private static final String TABLE = "- `table`: 0 cards, 1 the wheel, 2 the machine";
    private static final Supplier<ShoeHouse> THREE = () -> Scene.withGuests(3, 1000);

    private FigureSentences() {
    }

    static void run() {
        day();
        ofGuests();
        money();
        chips();
        isBarred();
        staked();
        reports();
        tray();
        vault();
        ruin();
        checksum();
        vaultBits();
        barredShare();
        meanChips();
        isSound();
    }

    private static void day() {
        Doc.says(52, "Returns the day.");
        ShoeHouse house = new ShoeHouse();
        Expect.same("at first", house.day(), 0);
        house.pass(1);
        Expect.same("1", house.day(), 1);
        house.pass(30);
        Expect.same("31", house.day(), 31);
        Expect.same("behind 999", Scene.later(house, 970).day(), 1001);
    }

    /** Promises that ask for a figure of a guest: each of them refuses a guest that there is not. */
    private static void ofGuests() {
        Refusal.Numbered[] asked = {ShoeHouse::money, ShoeHouse::chips, ShoeHouse::isBarred, ShoeHouse::staked, ShoeHouse::reports};
        for (int i = 0; i < asked.length; i++) {
            Refusal.Numbered call = asked[i];
            Doc.says(53 + i, GUEST);
            Refusal.indexes(THREE, 0, 2, call);
            Refusal.indexes(() -> Scene.withGuests(8, 1), 0, 7, call);
            Doc.says(53 + i, NO_GUEST);
            Refusal.index("no guests", ShoeHouse::new, h -> call.on(h, 0));
            Refusal.index("a guest too many", THREE, h -> call.on(h, 3));
            Refusal.index("-1", THREE, h -> call.on(h, -1));
            Refusal.index("8", () -> Scene.withGuests(8, 1), h -> call.on(h, 8));
        }
    }

    private static void money() {
        Doc.says(53, "Returns the money of a guest.", "Returns the money.");
        ShoeHouse house = new ShoeHouse();
        house.guest(0);
        house.guest(99999);
        Expect.same("none", house.money(0), 0);
        Expect.same("the most", house.money(1), 99999);
        house.buyIn(1, 9999);
        Expect.same("less", house.money(1), 90000);
        house.cashOut(1, 1);
        Expect.same("more", house.money(1), 90001);
    }

    private static void chips() {
        Doc.says(54, "Returns the chips of a guest.", "Returns the chips.");
        ShoeHouse house = Scene.withGuests(2, 0);
        Expect.same("none", house.chips(1), 0);
        house.buyIn(1, 50);
        Expect.same("bought", house.chips(1), 50);
        house.wager(1, 'r', 0, 20);
        Expect.same("less the stake", house.chips(1), 30);
        house.spin(3);
        Expect.same("with what is paid", house.chips(1), 70);
        Expect.same("not the other's", house.chips(0), 0);
    }

    private static void isBarred() {
        Doc.says(55, "Returns whether a guest is barred today.", "Returns true if so.");
        ShoeHouse house = THREE.get();
        Expect.same("not barred", house.isBarred(1), false);
        house.bar(1, 2);
        Expect.same("today", house.isBarred(1), true);
        Expect.same("not the other", house.isBarred(0), false);
        house.pass(1);
        Expect.same("the day before", house.isBarred(1), true);
        house.pass(1);
        Expect.same("that day", house.isBarred(1), false);
        house.bar(1, 999);
        Scene.later(house, 996);
        Expect.same("day 998", house.isBarred(1), true);
        house.pass(1);
        Expect.same("day 999", house.isBarred(1), false);
    }

    private static void staked() {
        Doc.says(56, "Returns what a guest staked today.", "Returns the chips.");
        ShoeHouse house = THREE.get();
        Expect.same("nothing", house.staked(0), 0);
        house.bet(0, 0, 8);
        house.wager(0, 'r', 0, 1);
        house.pull(0, 20);
        house.ticket(0, 123);
        Expect.same("all together", house.staked(0), 31);
        Expect.same("not the other", house.staked(1), 0);
        house.stop(0);
        house.spin(1);
        Expect.same("also what came back", house.staked(0), 31);
        Scene.lay(house, 1, Cards.EIGHTS);
        house.deal();
        house.split(0);
        Expect.same("a split", house.staked(0), 39);
        Scene.standAll(house);
        Expect.same("settled", house.staked(0), 39);
        house.pass(1);
        Expect.same("the next day", house.staked(0), 0);
        ShoeHouse twice = Scene.dealt(20, Cards.DOUBLE_18);
        twice.twice(0);
        Expect.same("a double", twice.staked(0), 40);
        ShoeHouse barred = Scene.after(THREE, h -> h.wager(0, 'r', 0, 5));
        barred.bar(0, 1);
        Expect.same("what a bar brought back", barred.staked(0), 5);
    }

    private static void reports() {
        Doc.says(57, "Returns how often a guest was reported.", "Returns the number of days.");
        ShoeHouse house = Scene.withGuests(2, 0);
        Expect.same("never", house.reports(0), 0);
        house.buyIn(0, 999);
        Expect.same("999", house.reports(0), 0);
        house.buyIn(0, 1);
        Expect.same("1000", house.reports(0), 1);
        house.buyIn(0, 1000);
        Expect.same("the same day", house.reports(0), 1);
        house.pass(1);
        house.buyIn(0, 1000);
        Expect.same("two days", house.reports(0), 2);
        Expect.same("not the other", house.reports(1), 0);
    }

    private static void tray() {
        Doc.says(58, "Returns the tray of a table.", "Returns the chips.", TABLE);
        ShoeHouse house = Scene.dealt(20, Cards.BUSTS);
        house.hit(0);
        house.wager(0, 'r', 0, 30);
        house.spin(2);
        house.pull(0, 45);
        house.stop(0);
        Expect.same("cards", house.tray(0), 20);
        Expect.same("wheel", house.tray(1), 30);
        Expect.same("machine", house.tray(2), 41);
        Refusal.indexes(THREE, 0, 2, ShoeHouse::tray);
        Doc.says(58, "Throws `IndexOutOfBoundsException` if there is no such table");
        Refusal.index("3", THREE, h -> h.tray(3));
        Refusal.index("-1", THREE, h -> h.tray(-1));
    }

    private static void vault() {
        Doc.says(59, "Returns the vault.", "Returns the chips.");
        Expect.same("all", new ShoeHouse().vault(), 100000);
        Expect.same("10", Scene.withVault(10).vault(), 10);
        Expect.same("none", Scene.withVault(0).vault(), 0);
        Expect.same("less than 0", Scene.withVaultBelowNone().vault(), -35);
    }

    private static void ruin() {
        Doc.says(60, "Returns the upper number of the chance that single chips on red bring so many chips to the goal ahead of none, "
            + "in lowest terms.", "Returns the number.");
        ruins(true);
        Doc.says(61, "Returns its lower number.", "Returns the number.");
        ruins(false);
        Refusal.Numbered[] ofChips = {(h, chips) -> h.ruinOver(chips, 9), (h, chips) -> h.ruinUnder(chips, 9)};
        Refusal.Numbered[] ofGoals = {(h, goal) -> h.ruinOver(1, goal), (h, goal) -> h.ruinUnder(1, goal)};
        Refusal.Numbered[] ofBoth = {(h, both) -> h.ruinOver(both, both), (h, both) -> h.ruinUnder(both, both)};
        for (int i = 0; i < 2; i++) {
            Doc.says(60 + i, "- `chips`: 0 to the goal");
            Refusal.arguments(ShoeHouse::new, 0, 9, ofChips[i]);
            Doc.says(60 + i, "- `goal`: 1 to 14");
            Refusal.arguments(ShoeHouse::new, 1, 14, ofGoals[i]);
            Doc.says(60 + i, "Throws `IllegalArgumentException` if a number is out of range");
            Refusal.arguments(ShoeHouse::new, 1, 14, ofBoth[i]);
        }
    }

    private static void ruins(boolean isOver) {
        ShoeHouse house = new ShoeHouse();
        for (int goal = 1; goal <= 14; goal++) {
            BigInteger all = power(19, goal).subtract(power(18, goal));
            for (int chips = 0; chips <= goal; chips++) {
                BigInteger part = power(19, chips).subtract(power(18, chips)).multiply(power(18, goal - chips));
                BigInteger shared = part.gcd(all);
                long due = (isOver ? part : all).divide(shared).longValueExact();
                Expect.same(chips + " of " + goal, isOver ? house.ruinOver(chips, goal) : house.ruinUnder(chips, goal), due);
            }
        }
    }

    private static BigInteger power(int base, int times) {
        return BigInteger.valueOf(base).pow(times);
    }

    private static void checksum() {
        Doc.says(62, "Returns a sum over the house.", "Returns 7 at first, then for each guest 31 times itself plus the money, then 31 "
            + "times itself plus the chips; then for each table 31 times itself plus the tray; then 31 times itself plus the vault, "
            + "the pot and the pool, in turn.");
        for (int guests = 0; guests <= 8; guests++) {
            ShoeHouse house = Scene.withGuests(guests, 700);
            house.fill(0, 1);
            house.fill(1, 20);
            house.fill(2, 300);
            if (guests > 1) {
                house.pull(1, 50);
                house.stop(0);
                house.ticket(0, 123);
            }
            Expect.same(guests + " guests", house.checksum(), sumOver(house, guests).longValue());
        }
        Expect.same("it wraps around", sumOver(Scene.withGuests(8, 700), 8).bitLength() > 64, true);
    }

    private static BigInteger sumOver(ShoeHouse house, int guests) {
        BigInteger sum = BigInteger.valueOf(7);
        for (int guest = 0; guest < guests; guest++) {
            sum = next(next(sum, house.money(guest)), house.chips(guest));
        }
        for (int table = 0; table < 3; table++) {
            sum = next(sum, house.tray(table));
        }
        return next(next(next(sum, house.vault()), house.pot()), house.pool());
    }

    private static BigInteger next(BigInteger sum, int part) {
        return sum.multiply(BigInteger.valueOf(31)).add(BigInteger.valueOf(part));
    }

    private static void vaultBits() {
        Doc.says(63, "Returns the share of all chips that the vault has.",
            "Returns its number divided by 100000, both converted to float, as the bits of a float by its standard form.");
        Expect.same("1.0f", new ShoeHouse().vaultBits(), 0x3f800000);
        Expect.same("0.0f", Scene.withVault(0).vaultBits(), 0);
        for (int chips : new int[] {1, 2, 3, 10, 4095, 24414, 25000, 33333, 50000, 65536, 75000, 99999}) {
            Expect.same("bits of " + chips, Scene.withVault(chips).vaultBits(), Float.floatToIntBits((float) chips / (float) 100000));
        }
        Expect.same("below 0", Scene.withVaultBelowNone().vaultBits(), Float.floatToIntBits((float) -35 / (float) 100000));
        ShoeHouse deep = Scene.withVault(0);
        for (int i = 0; i < 10; i++) {
            deep.wager(0, 'n', 7, 500);
        }
        deep.spin(7);
        Expect.same("far below 0", deep.vaultBits(), Float.floatToIntBits((float) -175000 / (float) 100000));
        deep.pass(1);
        deep.wager(0, 'n', 7, 500);
        deep.wager(0, 'n', 7, 214);
        deep.wager(0, 'r', 0, 10);
        deep.spin(7);
        Expect.same("twice as much as all", deep.vault(), -200000);
        Expect.same("-2.0f", deep.vaultBits(), 0xc0000000);
        for (int i = 0; i < 3; i++) {
            deep.pass(1);
            for (int wager = 0; wager < 10; wager++) {
                deep.wager(0, 'n', 7, 500);
            }
            deep.spin(7);
            Expect.same("bits of " + deep.vault(), deep.vaultBits(), Float.floatToIntBits((float) deep.vault() / (float) 100000));
        }
        Expect.same("more than 4 times as much", deep.vault() < -400000, true);
    }

    private static void barredShare() {
        Doc.says(64, "Returns the share of guests that are barred today.",
            "Returns their number divided by that of all, both converted to float.");
        for (int guests = 1; guests <= 8; guests++) {
            ShoeHouse house = Scene.withGuests(guests, 5);
            Expect.same("none of " + guests, house.barredShare(), 0.0f);
            for (int barred = 1; barred <= guests; barred++) {
                house.bar(barred - 1, barred);
                Expect.same(barred + " of " + guests, house.barredShare(), (float) barred / (float) guests);
            }
            house.pass(1);
            Expect.same("the first one no more", house.barredShare(), (float) (guests - 1) / (float) guests);
        }
        Doc.says(64, "Throws `ArithmeticException` if there are none");
        Refusal.arithmetic("no guests", ShoeHouse::new, ShoeHouse::barredShare);
        Refusal.taken("one guest", () -> Scene.withGuests(1, 0), ShoeHouse::barredShare);
    }

    private static void meanChips() {
        Doc.says(65, "Returns the mean chips of guests.", "Returns the sum divided by their number, both converted to double.");
        for (int guests = 1; guests <= 8; guests++) {
            ShoeHouse house = Scene.withGuests(guests, 0);
            Expect.same("none", house.meanChips(), 0.0);
            house.buyIn(0, 1000);
            Expect.same("1000 by " + guests, house.meanChips(), 1000.0 / guests);
            house.buyIn(guests - 1, 7);
            Expect.same("1007 by " + guests, house.meanChips(), 1007.0 / guests);
        }
        Doc.says(65, "Throws `ArithmeticException` if there are none");
        Refusal.arithmetic("no guests", ShoeHouse::new, ShoeHouse::meanChips);
        Refusal.taken("one guest", () -> Scene.withGuests(1, 0), ShoeHouse::meanChips);
    }

    private static void isSound() {
        Doc.says(66, "Checks the house: chips of guests, on tables, in trays, the vault, the pot, the pool and prizes are 100000; cards in "
            + "the shoe, dealt and aside are those laid; nothing of a barred guest lies on a table; the chances of the dealer are at "
            + "most 1 together, but for a millionth.", "Returns true if so.");
        Expect.same("a new house", new ShoeHouse().isSound(), true);
        Expect.same("all at once", busy().isSound(), true);
        Expect.same("below 0", Scene.withVaultBelowNone().isSound(), true);
        for (String part : new String[] {"vault chips", "machine pot", "lottery pool", "machine stake"}) {
            Expect.same("a chip more: " + part, broken(part, 1), false);
            Expect.same("a chip less: " + part, broken(part, -1), false);
        }
        ShoeHouse card = busy();
        int[] seen = (int[]) inside(inside(card, "shoe"), "seen");
        for (int rank = 1; rank <= 10; rank++) {
            seen[rank]++;
            Expect.same("a card too many was seen: " + rank, card.isSound(), false);
            seen[rank] -= 2;
            Expect.same("a card too few was seen: " + rank, card.isSound(), false);
            seen[rank]++;
            Expect.same("as it was", card.isSound(), true);
        }
        for (int guest = 0; guest < 3; guest++) {
            ShoeHouse barred = busy();
            Object player = ((Object[]) inside(barred, "guests"))[guest];
            set(player, "barredUntil", 5);
            Expect.same("a stake of a barred guest", barred.isSound(), false);
            set(player, "barredUntil", 0);
            Expect.same("the bar is over", barred.isSound(), true);
        }
        ShoeHouse odds = busy();
        double sum = 0.0;
        for (int value = 17; value <= 22; value++) {
            sum += odds.dealerEnds(value);
        }
        Expect.same("chances together", sum <= 1.000001, true);
    }

    /** Stakes at the cards, the wheel and the machine, tickets, a prize, a pot, and a round that goes on. */
    private static ShoeHouse busy() {
        ShoeHouse house = Scene.withGuests(4, 1000);
        house.pull(3, 50);
        house.stop(0);
        house.ticket(3, 123);
        house.draw(123);
        house.confirm();
        house.ticket(3, 124);
        house.wager(1, 'r', 0, 7);
        house.pull(2, 30);
        house.bet(0, 0, 20);
        Scene.lay(house, 1, Cards.BUSTS);
        house.deal();
        return house;
    }

    private static boolean broken(String part, int change) {
        ShoeHouse house = busy();
        String[] names = part.split(" ");
        Object owner = inside(house, names[0]);
        set(owner, names[1], (Integer) inside(owner, names[1]) + change);
        return house.isSound();
    }

    /** Only a house that is broken from outside shows that the check sees it. */
    private static Object inside(Object owner, String name) {
        try {
            Field field = owner.getClass().getDeclaredField(name);
            field.setAccessible(true);
            return field.get(owner);
        } catch (ReflectiveOperationException missing) {
            throw new IllegalStateException("no field " + name, missing);
        }
    }

    private static void set(Object owner, String name, int value) {
        try {
            Field field = owner.getClass().getDeclaredField(name);
            field.setAccessible(true);
            field.setInt(owner, value);
        } catch (ReflectiveOperationException missing) {
            throw new IllegalStateException("no field " + name, missing);
        }
    }
}
