import java.util.function.Consumer;
import java.util.function.Supplier;

/** The sentences of the promises 35 to 51: the wheel, the machine, lotteries. */
final class GameSentences {
    private static final String NO_GUEST = "Throws `IndexOutOfBoundsException` if there is no such guest";
    private static final String NO_RANGE = "Throws `IllegalArgumentException` if a number is out of range";
    private static final String GUEST = "- `guest`: the guest";
    private static final String MAY_NOT_STAKE = "Throws `UnsupportedOperationException` if the guest is barred, has not so many "
        + "chips, or would stake more than the limit today";
    private static final String SPINNING = "Throws `IllegalStateException` if a spin goes on";
    private static final String UNLIKE = "Throws `IllegalArgumentException` if the digits are not unlike, or there are more";
    private static final int[] NOT_UNLIKE = {0, 1, 10, 11, 100, 101, 110, 112, 121, 211, 222, 988, 998, 989, 999};
    private static final int[] MORE = {1000, 1023, 1234, 9876, 10012, Integer.MAX_VALUE, -1, -12, -123, Integer.MIN_VALUE};
    private static final Supplier<ShoeHouse> THREE = () -> Scene.withGuests(3, 1000);
    private static final Supplier<ShoeHouse> SPIN = () -> Scene.after(THREE, h -> h.pull(0, 10));
    private static final Supplier<ShoeHouse> TILTED = () -> Scene.after(SPIN, ShoeHouse::tilt);
    private static final Supplier<ShoeHouse> STOPPED = () -> Scene.after(SPIN, h -> h.stop(0));

    private GameSentences() {
    }

    static void run() {
        wager();
        wagerRefused();
        spin();
        stops();
        stopsRefused();
        pays();
        bound();
        pull();
        pullRefused();
        stop();
        tilt();
        recover();
        pot();
        returned();
        ticket();
        ticketRefused();
        draw();
        confirm();
        claim();
        pool();
    }

    /** What holds for each stake of so many chips: who is barred, lacks chips, or would stake above the limit. */
    private static void stakeRefused(int promise, int chips, Consumer<ShoeHouse> stake) {
        Doc.says(promise, MAY_NOT_STAKE);
        Supplier<ShoeHouse> barred = () -> Scene.after(THREE, h -> h.bar(0, 2));
        Refusal.unsupported("barred", barred, stake);
        Refusal.unsupported("the day before", () -> Scene.later(barred.get(), 1), stake);
        Refusal.taken("that day", () -> Scene.later(barred.get(), 2), stake);
        Refusal.taken("another one is barred", () -> Scene.after(THREE, h -> h.bar(1, 2)), stake);
        Refusal.taken("all chips", () -> Scene.withGuests(1, chips), stake);
        Refusal.unsupported("a chip less", () -> Scene.withGuests(2, chips - 1), stake);
        Refusal.unsupported("no chips", () -> Scene.withGuests(1, 0), stake);
        Refusal.taken("the limit", () -> Scene.after(THREE, h -> h.limit(0, chips)), stake);
        Refusal.unsupported("a lower limit", () -> Scene.after(THREE, h -> h.limit(0, chips - 1)), stake);
        Refusal.unsupported("the lowest limit", () -> Scene.after(THREE, h -> h.limit(0, 0)), stake);
        Supplier<ShoeHouse> staked = () -> Scene.after(THREE, h -> h.bet(2, 0, 20));
        Refusal.taken("the limit with the bet", () -> Scene.after(staked, h -> h.limit(0, chips + 20)), stake);
        Refusal.unsupported("above it with the bet", () -> Scene.after(staked, h -> h.limit(0, chips + 19)), stake);
    }

    private static ShoeHouse withWagers(int wagers) {
        ShoeHouse house = THREE.get();
        for (int i = 0; i < wagers; i++) {
            house.wager(i % 2, 'n', i, 5);
        }
        return house;
    }

    private static void wager() {
        Doc.says(35, "Adds a wager.");
        ShoeHouse house = THREE.get();
        house.wager(1, 'n', 36, 20);
        Expect.same("chips", house.chips(1), 980);
        Expect.same("staked", house.staked(1), 20);
        Expect.same("it is paid", house.spin(36), 720);
        Doc.says(35, GUEST);
        Refusal.indexes(THREE, 0, 2, (h, guest) -> h.wager(guest, 'r', 0, 1));
        Refusal.indexes(() -> Scene.withGuests(8, 9), 0, 7, (h, guest) -> h.wager(guest, 'b', 0, 9));
        Doc.says(35, "- `kind`: 'n', 'r', 'b' or 'd'");
        for (char kind : "nrbd".toCharArray()) {
            Refusal.taken("kind " + kind, THREE, h -> h.wager(0, kind, 0, 1));
            for (char other : new char[] {(char) (kind - 1), (char) (kind - 32), (char) (kind + 256)}) {
                Refusal.argument("no kind " + (int) other, THREE, h -> h.wager(0, other, 0, 1));
            }
        }
        Doc.says(35, "- `number`: the number of n, 0 to 36, the dozen of d, 0 to 2, of no meaning otherwise");
        Refusal.arguments(THREE, 0, 36, (h, number) -> h.wager(0, 'n', number, 1));
        Refusal.arguments(THREE, 0, 2, (h, number) -> h.wager(0, 'd', number, 1));
        for (int number : new int[] {Integer.MIN_VALUE, -1, 3, 37, Integer.MAX_VALUE}) {
            Expect.same("red", Scene.after(THREE, h -> h.wager(0, 'r', number, 1)).spin(1), 2);
            Expect.same("black", Scene.after(THREE, h -> h.wager(0, 'b', number, 1)).spin(2), 2);
        }
        Doc.says(35, "- `chips`: 1 to 500");
        Refusal.arguments(THREE, 1, 500, (h, chips) -> h.wager(0, 'r', 0, chips));
        Refusal.arguments(THREE, 1, 500, (h, chips) -> h.wager(0, 'n', 0, chips));
        Doc.says(35, "Returns how many there are.");
        for (int wagers = 0; wagers < 10; wagers++) {
            Expect.same("how many", withWagers(wagers).wager(2, 'd', 0, 1), wagers + 1);
        }
    }

    private static void wagerRefused() {
        Doc.says(35, NO_GUEST);
        Refusal.index("no guests", ShoeHouse::new, h -> h.wager(0, 'r', 0, 1));
        Refusal.index("a guest too many", THREE, h -> h.wager(3, 'r', 0, 1));
        Refusal.index("-1", THREE, h -> h.wager(-1, 'r', 0, 1));
        Doc.says(35, "Throws `IllegalArgumentException` if there is no such kind, or a number is out of range");
        Refusal.argument("no kind", THREE, h -> h.wager(0, 'x', 0, 1));
        Refusal.argument("kind 0", THREE, h -> h.wager(0, (char) 0, 0, 1));
        Refusal.argument("kind 65535", THREE, h -> h.wager(0, (char) 65535, 0, 1));
        Refusal.argument("number 37", THREE, h -> h.wager(0, 'n', 37, 1));
        Refusal.argument("number -1", THREE, h -> h.wager(0, 'n', -1, 1));
        Refusal.argument("dozen 3", THREE, h -> h.wager(0, 'd', 3, 1));
        Refusal.argument("dozen -1", THREE, h -> h.wager(0, 'd', -1, 1));
        Refusal.argument("0 chips", THREE, h -> h.wager(0, 'd', 0, 0));
        Refusal.argument("501 chips", THREE, h -> h.wager(0, 'b', 0, 501));
        stakeRefused(35, 60, h -> h.wager(0, 'r', 0, 60));
        Doc.says(35, "Throws `IllegalStateException` if there are 10");
        Refusal.taken("the tenth", () -> withWagers(9), h -> h.wager(0, 'r', 0, 1));
        Refusal.state("the eleventh", () -> withWagers(10), h -> h.wager(0, 'r', 0, 1));
        Refusal.taken("they were settled", () -> Scene.after(() -> withWagers(10), h -> h.spin(0)), h -> h.wager(0, 'r', 0, 1));
        Refusal.taken("some came back", () -> Scene.after(() -> withWagers(10), h -> h.bar(1, 1)), h -> h.wager(0, 'r', 0, 1));
        Supplier<ShoeHouse> ten = () -> withWagers(10);
        Doc.order(35, Doc.INDEX, Doc.ARGUMENT);
        Refusal.index("no guest, no kind", THREE, h -> h.wager(3, 'x', 0, 1));
        Refusal.index("no guest, 0 chips", THREE, h -> h.wager(-1, 'r', 0, 0));
        Doc.order(35, Doc.INDEX, Doc.UNSUPPORTED);
        Refusal.index("no guest, no chips", () -> Scene.withGuests(3, 0), h -> h.wager(3, 'r', 0, 1));
        Doc.order(35, Doc.INDEX, Doc.STATE);
        Refusal.index("no guest, 10 wagers", ten, h -> h.wager(3, 'r', 0, 1));
        Doc.order(35, Doc.ARGUMENT, Doc.UNSUPPORTED);
        Refusal.argument("barred, no kind", () -> Scene.after(THREE, h -> h.bar(0, 1)), h -> h.wager(0, 'x', 0, 1));
        Refusal.argument("501 of 9 chips", () -> Scene.withGuests(1, 9), h -> h.wager(0, 'r', 0, 501));
        Doc.order(35, Doc.ARGUMENT, Doc.STATE);
        Refusal.argument("10 wagers, dozen 3", ten, h -> h.wager(0, 'd', 3, 1));
        Refusal.argument("10 wagers, 0 chips", ten, h -> h.wager(0, 'r', 0, 0));
        Doc.order(35, Doc.UNSUPPORTED, Doc.STATE);
        Refusal.unsupported("10 wagers, barred", () -> Scene.after(() -> Scene.after(ten, h -> h.guest(9)), h -> h.bar(3, 1)),
            h -> h.wager(3, 'r', 0, 1));
        Refusal.unsupported("10 wagers, no chips", () -> Scene.after(ten, h -> h.cashOut(0, 975)), h -> h.wager(0, 'r', 0, 1));
        Refusal.unsupported("10 wagers, the limit", () -> Scene.after(ten, h -> h.limit(0, 25)), h -> h.wager(0, 'r', 0, 1));
    }

    private static void spin() {
        Doc.says(36, "Lets the wheel fall on a number; all wagers are settled.");
        ShoeHouse house = withWagers(10);
        house.spin(9);
        Expect.same("chips", house.chips(1), 975 + 180);
        Expect.same("chips", house.chips(0), 975);
        Expect.same("none is left", house.spin(9), 0);
        Expect.same("the others lost", house.vault() + house.tray(1), 97000 + 45 - 175);
        Doc.says(36, "- `number`: 0 to 36");
        Refusal.arguments(() -> withWagers(10), 0, 36, ShoeHouse::spin);
        Doc.says(36, "Returns what is paid, stakes that come back too.");
        Expect.same("no wagers", THREE.get().spin(0), 0);
        Expect.same("36 times", withWagers(10).spin(9), 180);
        Expect.same("none", withWagers(10).spin(10), 0);
        ShoeHouse many = THREE.get();
        many.wager(0, 'r', 0, 10);
        many.wager(1, 'd', 2, 20);
        many.wager(2, 'n', 36, 1);
        Expect.same("all together", many.spin(36), 20 + 60 + 36);
        Doc.says(36, NO_RANGE);
        Refusal.argument("-1", () -> withWagers(10), h -> h.spin(-1));
        Refusal.argument("37", () -> withWagers(10), h -> h.spin(37));
        Refusal.argument("no wagers, 37", THREE, h -> h.spin(37));
    }

    private static void stops() {
        Doc.says(37, "Tells the symbols of a reel.");
        ShoeHouse house = THREE.get();
        house.stops(0, 3);
        house.stops(1, 13);
        house.stops(2, 30000000);
        house.pays(3, 5);
        house.pull(0, 10);
        Expect.same("three alike", house.stop(770), 50);
        Doc.says(37, "- `reel`: 0 to 2");
        Refusal.indexes(THREE, 0, 2, (h, reel) -> h.stops(reel, 12340123));
        Doc.says(37, "- `symbols`: eight digits, 0 to 4 each, the first one that of the stop 0");
        for (int stop = 0, digit = 10000000; stop < 8; stop++, digit /= 10) {
            int symbols = 44444444 - digit;
            for (int asked = 0; asked < 8; asked++) {
                ShoeHouse reels = THREE.get();
                reels.pays(3, 2);
                reels.stops(0, symbols);
                reels.stops(1, 33333333);
                reels.stops(2, 33333333);
                reels.pull(0, 10);
                Expect.same("stop " + stop + " shows 3", reels.stop(100 * asked), asked == stop ? 20 : 0);
            }
            int wrong = 44444444 + digit;
            Refusal.argument("a 5 at stop " + stop, THREE, h -> h.stops(0, wrong));
            int more = 5 * digit;
            Refusal.argument("a 5 alone at stop " + stop, THREE, h -> h.stops(2, more));
        }
        Refusal.taken("all 0", THREE, h -> h.stops(0, 0));
        Refusal.taken("all 4", THREE, h -> h.stops(0, 44444444));
        Doc.says(37, "Returns the number of stops that change.");
        ShoeHouse reels = THREE.get();
        Expect.same("none", reels.stops(0, 44444444), 0);
        Expect.same("one", reels.stops(0, 34444444), 1);
        Expect.same("the last one", reels.stops(0, 34444443), 1);
        Expect.same("all", reels.stops(0, 1111110), 8);
        Expect.same("of another reel", reels.stops(1, 1111110), 8);
        Expect.same("none", reels.stops(1, 1111110), 0);
        Expect.same("six", reels.stops(1, 0), 6);
    }

    private static void stopsRefused() {
        Doc.says(37, "Throws `IndexOutOfBoundsException` if there is no such reel");
        Refusal.index("reel 3", THREE, h -> h.stops(3, 1234));
        Refusal.index("reel -1", THREE, h -> h.stops(-1, 1234));
        Doc.says(37, "Throws `IllegalArgumentException` if a digit is out of range, or there are more");
        Refusal.argument("a digit 5", THREE, h -> h.stops(0, 5));
        Refusal.argument("a digit 9", THREE, h -> h.stops(1, 44944444));
        Refusal.argument("nine digits", THREE, h -> h.stops(0, 100000000));
        Refusal.argument("nine digits", THREE, h -> h.stops(0, 444444444));
        Refusal.argument("ten digits", THREE, h -> h.stops(2, 1111111111));
        Refusal.argument("-1", THREE, h -> h.stops(0, -1));
        Refusal.argument("-44444444", THREE, h -> h.stops(0, -44444444));
        Refusal.argument("the greatest", THREE, h -> h.stops(0, Integer.MAX_VALUE));
        Refusal.argument("the least", THREE, h -> h.stops(0, Integer.MIN_VALUE));
        Doc.says(37, SPINNING);
        Refusal.state("a spin", SPIN, h -> h.stops(0, 0));
        Refusal.state("a spin, nothing would change", SPIN, h -> h.stops(0, 44444444));
        Refusal.taken("tilted", TILTED, h -> h.stops(0, 0));
        Refusal.taken("stopped", STOPPED, h -> h.stops(0, 0));
        Doc.order(37, Doc.INDEX, Doc.ARGUMENT);
        Refusal.index("reel 3, 5", THREE, h -> h.stops(3, 5));
        Doc.order(37, Doc.INDEX, Doc.STATE);
        Refusal.index("a spin, reel 3", SPIN, h -> h.stops(3, 0));
        Doc.order(37, Doc.ARGUMENT, Doc.STATE);
        Refusal.argument("a spin, 5", SPIN, h -> h.stops(0, 5));
    }

    private static void pays() {
        Doc.says(38, "Tells what three alike pay.");
        ShoeHouse house = THREE.get();
        house.pays(4, 7);
        house.pull(0, 10);
        Expect.same("7 times", house.stop(0), 70);
        Doc.says(38, "- `symbol`: 0 to 4");
        Refusal.arguments(THREE, 0, 4, (h, symbol) -> h.pays(symbol, 1));
        Doc.says(38, "- `times`: 0 to 200");
        Refusal.arguments(THREE, 0, 200, (h, times) -> h.pays(4, times));
        Refusal.arguments(THREE, 0, 200, (h, times) -> h.pays(0, times));
        Doc.says(38, "Returns the times before.");
        for (int symbol = 0; symbol <= 4; symbol++) {
            ShoeHouse told = new ShoeHouse();
            Expect.same("0 at first", told.pays(symbol, 200), 0);
            Expect.same("200", told.pays(symbol, 0), 200);
            Expect.same("0", told.pays(symbol, 5), 0);
        }
        Doc.says(38, NO_RANGE);
        Refusal.argument("symbol -1", THREE, h -> h.pays(-1, 1));
        Refusal.argument("symbol 5", THREE, h -> h.pays(5, 1));
        Refusal.argument("-1 times", THREE, h -> h.pays(0, -1));
        Refusal.argument("201 times", THREE, h -> h.pays(0, 201));
        Doc.says(38, SPINNING);
        Refusal.state("a spin", SPIN, h -> h.pays(0, 1));
        Refusal.taken("tilted", TILTED, h -> h.pays(0, 1));
        Refusal.taken("stopped", STOPPED, h -> h.pays(0, 1));
        Doc.order(38, Doc.ARGUMENT, Doc.STATE);
        Refusal.argument("a spin, symbol 5", SPIN, h -> h.pays(5, 1));
        Refusal.argument("a spin, 201", SPIN, h -> h.pays(0, 201));
    }

    private static void bound() {
        Doc.says(39, "Tells the bound of the pot.");
        ShoeHouse house = Scene.after(STOPPED, h -> h.bound(1));
        house.pull(1, 9);
        Expect.same("the pot of 1 is hit", house.stop(0), 1);
        Doc.says(39, "- `chips`: 1 to 5000");
        Refusal.arguments(THREE, 1, 5000, ShoeHouse::bound);
        Doc.says(39, "Returns the bound before.");
        ShoeHouse told = new ShoeHouse();
        Expect.same("500 at first", told.bound(5000), 500);
        Expect.same("5000", told.bound(1), 5000);
        Expect.same("1", told.bound(500), 1);
        Doc.says(39, NO_RANGE);
        Refusal.argument("0", THREE, h -> h.bound(0));
        Refusal.argument("5001", THREE, h -> h.bound(5001));
        Doc.says(39, SPINNING);
        Refusal.state("a spin", SPIN, h -> h.bound(1));
        Refusal.taken("tilted", TILTED, h -> h.bound(1));
        Refusal.taken("stopped", STOPPED, h -> h.bound(1));
        Doc.order(39, Doc.ARGUMENT, Doc.STATE);
        Refusal.argument("a spin, 0", SPIN, h -> h.bound(0));
        Refusal.argument("a spin, 5001", SPIN, h -> h.bound(5001));
    }

    private static void pull() {
        Doc.says(40, "Begins a spin.");
        ShoeHouse house = THREE.get();
        house.pull(2, 30);
        Expect.same("chips", house.chips(2), 970);
        Expect.same("staked", house.staked(2), 30);
        Expect.same("it goes on", house.tilt(), 30);
        Doc.says(40, GUEST);
        Refusal.indexes(THREE, 0, 2, (h, guest) -> h.pull(guest, 1));
        Refusal.indexes(() -> Scene.withGuests(8, 100), 0, 7, (h, guest) -> h.pull(guest, 100));
        Doc.says(40, "- `chips`: 1 to 100");
        Refusal.arguments(THREE, 1, 100, (h, chips) -> h.pull(0, chips));
        Doc.says(40, "Returns the chips left.");
        Expect.same("1", THREE.get().pull(0, 1), 999);
        Expect.same("100", THREE.get().pull(0, 100), 900);
        Expect.same("all", Scene.withGuests(1, 100).pull(0, 100), 0);
    }

    private static void pullRefused() {
        Doc.says(40, NO_GUEST);
        Refusal.index("no guests", ShoeHouse::new, h -> h.pull(0, 1));
        Refusal.index("a guest too many", THREE, h -> h.pull(3, 1));
        Refusal.index("-1", THREE, h -> h.pull(-1, 1));
        Doc.says(40, NO_RANGE);
        Refusal.argument("0", THREE, h -> h.pull(0, 0));
        Refusal.argument("101", THREE, h -> h.pull(0, 101));
        stakeRefused(40, 60, h -> h.pull(0, 60));
        Doc.says(40, "Throws `IllegalStateException` if a spin goes on, or is to be recovered");
        Refusal.state("a spin", SPIN, h -> h.pull(0, 1));
        Refusal.state("another guest", SPIN, h -> h.pull(1, 1));
        Refusal.state("tilted", TILTED, h -> h.pull(0, 1));
        Refusal.state("tilted, another guest", TILTED, h -> h.pull(1, 1));
        Refusal.state("tilted, days later", () -> Scene.later(TILTED.get(), 9), h -> h.pull(1, 1));
        Refusal.taken("stopped", STOPPED, h -> h.pull(1, 1));
        Refusal.taken("recovered", () -> Scene.after(TILTED, ShoeHouse::recover), h -> h.pull(0, 1));
        Refusal.taken("taken away", () -> Scene.after(SPIN, h -> h.bar(0, 1)), h -> h.pull(1, 1));
        Refusal.taken("tilted, taken away", () -> Scene.after(TILTED, h -> h.bar(0, 1)), h -> h.pull(1, 1));
        Doc.order(40, Doc.INDEX, Doc.ARGUMENT);
        Refusal.index("no guest, 0", THREE, h -> h.pull(3, 0));
        Doc.order(40, Doc.INDEX, Doc.UNSUPPORTED);
        Refusal.index("no guest, no chips", () -> Scene.withGuests(3, 0), h -> h.pull(3, 1));
        Doc.order(40, Doc.INDEX, Doc.STATE);
        Refusal.index("a spin, no guest", SPIN, h -> h.pull(3, 1));
        Doc.order(40, Doc.ARGUMENT, Doc.UNSUPPORTED);
        Refusal.argument("101 of 9", () -> Scene.withGuests(1, 9), h -> h.pull(0, 101));
        Refusal.argument("barred, 0", () -> Scene.after(THREE, h -> h.bar(0, 1)), h -> h.pull(0, 0));
        Doc.order(40, Doc.ARGUMENT, Doc.STATE);
        Refusal.argument("a spin, 0", SPIN, h -> h.pull(0, 0));
        Refusal.argument("tilted, 101", TILTED, h -> h.pull(0, 101));
        Doc.order(40, Doc.UNSUPPORTED, Doc.STATE);
        Refusal.unsupported("a spin, barred", () -> Scene.after(SPIN, h -> h.bar(1, 1)), h -> h.pull(1, 1));
        Refusal.unsupported("tilted, no chips", () -> Scene.after(TILTED, h -> h.cashOut(0, 990)), h -> h.pull(0, 1));
        Refusal.unsupported("a spin, the limit", () -> Scene.after(SPIN, h -> h.limit(0, 10)), h -> h.pull(0, 1));
    }

    private static void stop() {
        Doc.says(41, "Ends a spin at virtual stops.");
        ShoeHouse house = SPIN.get();
        house.stop(0);
        Expect.state(house, "it is over", () -> house.stop(0));
        Expect.same("tray", house.tray(2), 9);
        Expect.same("pot", house.pot(), 1);
        Doc.says(41, "- `stops`: three digits, 0 to 7 each, the first one that of the first reel");
        Refusal.taken("0", SPIN, h -> h.stop(0));
        Refusal.taken("7", SPIN, h -> h.stop(7));
        Refusal.taken("777", SPIN, h -> h.stop(777));
        for (int wrong : new int[] {8, 9, 80, 90, 800, 900, 778, 787, 877, 999}) {
            Refusal.argument("an 8 or 9 in " + wrong, SPIN, h -> h.stop(wrong));
        }
        Supplier<ShoeHouse> reels = () -> Scene.after(THREE, h -> {
            h.stops(0, 10000000);
            h.stops(1, 1000000);
            h.stops(2, 1);
            h.pays(1, 3);
            h.pull(0, 10);
        });
        Expect.same("the first reel at 0, the last one at 7", reels.get().stop(17), 30);
        Expect.same("turned round", reels.get().stop(710), 0);
        Doc.says(41, "Returns what is paid, the pot too.");
        Expect.same("nothing", SPIN.get().stop(0), 0);
        ShoeHouse zeros = reels.get();
        Expect.same("the pot", zeros.stop(111 * 2), 1);
        zeros.pays(0, 200);
        zeros.pull(0, 100);
        Expect.same("200 times, and the pot", zeros.stop(222), 20010);
        Doc.says(41, "Throws `IllegalArgumentException` if a digit is out of range, or there are more");
        for (int more : new int[] {1000, 7777, 10000, Integer.MAX_VALUE, -1, -7, -777, Integer.MIN_VALUE}) {
            Refusal.argument("stops " + more, SPIN, h -> h.stop(more));
        }
        Refusal.argument("8", SPIN, h -> h.stop(8));
        String none = "Throws `IllegalStateException` if no spin goes on";
        Doc.says(41, none);
        Refusal.state("no spin", THREE, h -> h.stop(0));
        Refusal.state("stopped", STOPPED, h -> h.stop(0));
        Refusal.state("tilted", TILTED, h -> h.stop(0));
        Refusal.state("taken away", () -> Scene.after(SPIN, h -> h.bar(0, 1)), h -> h.stop(0));
        Doc.order(41, Doc.ARGUMENT, Doc.STATE);
        Refusal.argument("no spin, 8", THREE, h -> h.stop(8));
        Refusal.argument("tilted, 1000", TILTED, h -> h.stop(1000));
    }

    private static void tilt() {
        Doc.says(42, "Tilts the machine.");
        ShoeHouse house = TILTED.get();
        Expect.same("nothing comes back yet", house.chips(0), 990);
        Expect.same("it can be recovered", house.recover(), 1000);
        Doc.says(42, "Returns the stake of the spin.");
        for (int stake : new int[] {1, 9, 100}) {
            Expect.same("stake", Scene.after(THREE, h -> h.pull(1, stake)).tilt(), stake);
        }
        Doc.says(42, "Throws `IllegalStateException` if no spin goes on");
        Refusal.state("no spin", THREE, ShoeHouse::tilt);
        Refusal.state("stopped", STOPPED, ShoeHouse::tilt);
        Refusal.state("tilted already", TILTED, ShoeHouse::tilt);
        Refusal.state("recovered", () -> Scene.after(TILTED, ShoeHouse::recover), ShoeHouse::tilt);
        Refusal.state("taken away", () -> Scene.after(SPIN, h -> h.bar(0, 1)), ShoeHouse::tilt);
    }

    private static void recover() {
        Doc.says(43, "Recovers a spin that was tilted.");
        ShoeHouse house = Scene.after(TILTED, ShoeHouse::recover);
        Expect.same("chips", house.chips(0), 1000);
        Expect.same("nothing in the pot or tray", house.pot() + house.tray(2), 0);
        Expect.same("the machine is free", house.pull(1, 5), 995);
        Doc.says(43, "Returns the chips of the guest then.");
        Expect.same("all", TILTED.get().recover(), 1000);
        Expect.same("days later", Scene.later(TILTED.get(), 40).recover(), 1000);
        Expect.same("of the one who pulled", Scene.after(TILTED, h -> h.cashOut(0, 90)).recover(), 910);
        Doc.says(43, "Throws `IllegalStateException` if there is none to be recovered");
        Refusal.state("no spin", THREE, ShoeHouse::recover);
        Refusal.state("a spin goes on", SPIN, ShoeHouse::recover);
        Refusal.state("stopped", STOPPED, ShoeHouse::recover);
        Refusal.state("recovered already", () -> Scene.after(TILTED, ShoeHouse::recover), ShoeHouse::recover);
        Refusal.state("taken away", () -> Scene.after(TILTED, h -> h.bar(0, 1)), ShoeHouse::recover);
    }

    private static void pot() {
        Doc.says(44, "Returns the pot.", "Returns the chips.");
        Expect.same("none at first", new ShoeHouse().pot(), 0);
        Expect.same("not yet", SPIN.get().pot(), 0);
        Expect.same("a tenth", STOPPED.get().pot(), 1);
        ShoeHouse house = THREE.get();
        for (int i = 1; i <= 9; i++) {
            house.pull(0, 100);
            house.stop(0);
            Expect.same("tenths", house.pot(), 10 * i);
        }
        house.stops(0, 0);
        house.stops(1, 0);
        house.stops(2, 0);
        house.pull(1, 1);
        house.stop(0);
        Expect.same("it was paid", house.pot(), 0);
    }

    private static void returned() {
        Doc.says(45, "Returns the upper number of what the machine pays of a stake in the mean, the pot aside, in lowest terms.",
            "Returns the number.");
        ShoeHouse house = new ShoeHouse();
        Expect.same("nothing", house.returnOver(), 0);
        house.pays(4, 200);
        Expect.same("always 200 times", house.returnOver(), 200);
        house.stops(0, 44444440);
        Expect.same("7 of 8", house.returnOver(), 175);
        house.pays(4, 1);
        Expect.same("7 of 8", house.returnOver(), 7);
        house.stops(1, 10044400);
        house.stops(2, 11110004);
        house.pays(0, 5);
        Expect.same("7 by 3 by 1 of 4, once, 1 by 4 by 3 of 0, five times", house.returnOver(), 81);
        house.pays(1, 100);
        Expect.same("no 1 on the first reel", house.returnOver(), 81);
        house.pays(0, 0);
        house.pays(4, 0);
        Expect.same("the pot aside", house.returnOver(), 0);
        Doc.says(46, "Returns its lower number.", "Returns the number.");
        Expect.same("nothing", house.returnUnder(), 1);
        house.pays(0, 5);
        house.pays(4, 1);
        Expect.same("512 stops", house.returnUnder(), 512);
        house.pays(4, 4);
        Expect.same("144 of 512", house.returnUnder(), 32);
        Expect.same("144 of 512", house.returnOver(), 9);
        Expect.same("at first", new ShoeHouse().returnUnder(), 1);
    }

    private static ShoeHouse withTickets(int tickets) {
        ShoeHouse house = THREE.get();
        for (int i = 0; i < tickets; i++) {
            house.ticket(i % 3, 123 + i % 4);
        }
        return house;
    }

    private static void ticket() {
        Doc.says(47, "Sells a ticket.");
        ShoeHouse house = THREE.get();
        house.ticket(1, 987);
        Expect.same("2 chips", house.chips(1), 998);
        Expect.same("staked", house.staked(1), 2);
        Expect.same("pool", house.pool(), 2);
        Expect.same("it is in the draw", house.draw(789), 1);
        Doc.says(47, GUEST);
        Refusal.indexes(THREE, 0, 2, (h, guest) -> h.ticket(guest, 123));
        Refusal.indexes(() -> Scene.withGuests(8, 2), 0, 7, (h, guest) -> h.ticket(guest, 123));
        Doc.says(47, "- `numbers`: three unlike digits, the first one of hundreds");
        for (int numbers : new int[] {12, 120, 201, 789, 987, 102}) {
            Expect.same("ticket " + numbers, Scene.after(THREE, h -> h.ticket(0, numbers)).draw(numbers), 1);
            Expect.same("another " + numbers, Scene.after(THREE, h -> h.ticket(0, numbers)).draw(456), 0);
        }
        Doc.says(47, "Returns how many were sold for the draw.");
        for (int sold = 0; sold < 12; sold++) {
            Expect.same("sold", withTickets(sold).ticket(0, 678), sold + 1);
        }
        Expect.same("the next draw", Scene.after(() -> withTickets(12), h -> {
            h.draw(123);
            h.confirm();
        }).ticket(2, 123), 1);
    }

    private static void ticketRefused() {
        Doc.says(47, NO_GUEST);
        Refusal.index("no guests", ShoeHouse::new, h -> h.ticket(0, 123));
        Refusal.index("a guest too many", THREE, h -> h.ticket(3, 123));
        Refusal.index("-1", THREE, h -> h.ticket(-1, 123));
        Doc.says(47, UNLIKE);
        for (int numbers : NOT_UNLIKE) {
            Refusal.argument("ticket " + numbers, THREE, h -> h.ticket(0, numbers));
        }
        for (int numbers : MORE) {
            Refusal.argument("ticket " + numbers, THREE, h -> h.ticket(0, numbers));
        }
        stakeRefused(47, 2, h -> h.ticket(0, 123));
        Doc.says(47, "Throws `IllegalStateException` if 12 were sold, or a draw is not confirmed");
        Supplier<ShoeHouse> twelve = () -> withTickets(12);
        Supplier<ShoeHouse> drawn = () -> Scene.after(THREE, h -> h.draw(123));
        Refusal.taken("the twelfth", () -> withTickets(11), h -> h.ticket(0, 123));
        Refusal.state("the thirteenth", twelve, h -> h.ticket(0, 123));
        Refusal.state("twelve, of some guests barred", () -> Scene.after(twelve, h -> h.bar(0, 1)), h -> h.ticket(1, 123));
        Refusal.state("a draw", drawn, h -> h.ticket(0, 123));
        Refusal.state("a draw, days later", () -> Scene.later(drawn.get(), 9), h -> h.ticket(0, 123));
        Refusal.taken("confirmed", () -> Scene.after(drawn, ShoeHouse::confirm), h -> h.ticket(0, 123));
        Doc.order(47, Doc.INDEX, Doc.ARGUMENT);
        Refusal.index("no guest, 112", THREE, h -> h.ticket(3, 112));
        Doc.order(47, Doc.INDEX, Doc.UNSUPPORTED);
        Refusal.index("no guest, no chips", () -> Scene.withGuests(3, 0), h -> h.ticket(3, 123));
        Doc.order(47, Doc.INDEX, Doc.STATE);
        Refusal.index("a draw, no guest", drawn, h -> h.ticket(-1, 123));
        Doc.order(47, Doc.ARGUMENT, Doc.UNSUPPORTED);
        Refusal.argument("no chips, 112", () -> Scene.withGuests(1, 0), h -> h.ticket(0, 112));
        Doc.order(47, Doc.ARGUMENT, Doc.STATE);
        Refusal.argument("a draw, 1000", drawn, h -> h.ticket(0, 1000));
        Refusal.argument("12 were sold, 112", twelve, h -> h.ticket(0, 112));
        Doc.order(47, Doc.UNSUPPORTED, Doc.STATE);
        Refusal.unsupported("a draw, barred", () -> Scene.after(drawn, h -> h.bar(0, 1)), h -> h.ticket(0, 123));
        Refusal.unsupported("12 were sold, the limit", () -> Scene.after(twelve, h -> h.limit(0, 9)), h -> h.ticket(0, 123));
    }

    private static void draw() {
        Doc.says(48, "Draws, or recasts a draw that is not confirmed.");
        ShoeHouse house = withTickets(1);
        Expect.same("a draw", house.draw(456), 0);
        Expect.same("recast", house.draw(123), 1);
        Expect.same("recast", house.draw(231), 1);
        Expect.same("6 tenths of 2 by the last one", house.confirm(), 1);
        Doc.says(48, "- `numbers`: three unlike digits, likewise");
        for (int numbers : new int[] {12, 120, 789, 987}) {
            Refusal.taken("draw " + numbers, THREE, h -> h.draw(numbers));
            Expect.same("draw " + numbers, Scene.after(THREE, h -> h.ticket(0, numbers)).draw(numbers), 1);
        }
        Doc.says(48, "Returns how many tickets have three right numbers.");
        Expect.same("no tickets", THREE.get().draw(123), 0);
        Expect.same("three of twelve", withTickets(12).draw(321), 3);
        Expect.same("none", withTickets(12).draw(789), 0);
        Expect.same("two right numbers are none", withTickets(1).draw(124), 0);
        Doc.says(48, UNLIKE);
        for (int numbers : NOT_UNLIKE) {
            Refusal.argument("draw " + numbers, () -> withTickets(3), h -> h.draw(numbers));
        }
        for (int numbers : MORE) {
            Refusal.argument("recast by " + numbers, () -> Scene.after(() -> withTickets(3), h -> h.draw(123)), h -> h.draw(numbers));
        }
    }

    private static void confirm() {
        Doc.says(49, "Confirms a draw.");
        ShoeHouse house = withTickets(1);
        house.draw(123);
        house.confirm();
        Expect.same("the prize", house.claim(0), 1);
        Expect.same("tickets are sold again", house.ticket(0, 123), 1);
        Doc.says(49, "Returns what goes to winners.");
        Expect.same("nobody", Scene.after(THREE, h -> h.draw(123)).confirm(), 0);
        Expect.same("no right numbers", Scene.after(() -> withTickets(12), h -> h.draw(789)).confirm(), 0);
        Expect.same("14 by 3, 4 by 9", Scene.after(() -> withTickets(12), h -> h.draw(123)).confirm(), 12);
        Expect.same("4 by 10", Scene.after(() -> withTickets(10), h -> h.draw(129)).confirm(), 0);
        Expect.same("2 by 1", Scene.after(() -> withTickets(7), h -> h.draw(126)).confirm(), 8);
        Doc.says(49, "Throws `IllegalStateException` if there is none that is not confirmed");
        Refusal.state("no draw", THREE, ShoeHouse::confirm);
        Refusal.state("tickets, no draw", () -> withTickets(12), ShoeHouse::confirm);
        Refusal.state("confirmed already", () -> Scene.after(THREE, h -> {
            h.draw(123);
            h.confirm();
        }), ShoeHouse::confirm);
    }

    /** Guest 0 has a prize of 1 chip. */
    private static ShoeHouse withPrize() {
        return Scene.after(() -> withTickets(1), h -> {
            h.draw(123);
            h.confirm();
        });
    }

    private static void claim() {
        Doc.says(50, "Claims all prizes of a guest.");
        ShoeHouse house = withPrize();
        house.pass(1);
        for (int i = 0; i < 9; i++) {
            house.ticket(i % 2, 123);
        }
        house.draw(123);
        Expect.same("11 by 9", house.confirm(), 9);
        Expect.same("of both draws", house.claim(0), 6);
        Expect.same("of one draw", house.claim(1), 4);
        Expect.same("chips", house.chips(0), 1000 - 2 - 10 + 6);
        Doc.says(50, GUEST);
        Refusal.indexes(GameSentences::withThreePrizes, 0, 2, ShoeHouse::claim);
        Doc.says(50, "Returns what is paid.");
        Expect.same("1", withPrize().claim(0), 1);
        Expect.same("two days later", Scene.later(withPrize(), 2).claim(0), 1);
        Doc.says(50, NO_GUEST);
        Refusal.index("no guests", ShoeHouse::new, h -> h.claim(0));
        Refusal.index("a guest too many", GameSentences::withPrize, h -> h.claim(3));
        Refusal.index("-1", GameSentences::withPrize, h -> h.claim(-1));
        Doc.says(50, "Throws `NoSuchElementException` if there are none");
        Refusal.none("no ticket", THREE, h -> h.claim(0));
        Refusal.none("no draw", () -> withTickets(3), h -> h.claim(0));
        Refusal.none("not confirmed", () -> Scene.after(() -> withTickets(3), h -> h.draw(123)), h -> h.claim(0));
        Refusal.none("no right numbers", () -> Scene.after(() -> withTickets(3), h -> {
            h.draw(789);
            h.confirm();
        }), h -> h.claim(0));
        Refusal.none("another guest's", GameSentences::withPrize, h -> h.claim(1));
        Refusal.none("claimed already", () -> Scene.after(GameSentences::withPrize, h -> h.claim(0)), h -> h.claim(0));
        Refusal.taken("the third day", () -> Scene.later(withPrize(), 3), h -> h.claim(0));
        Refusal.none("the fourth day", () -> Scene.later(withPrize(), 4), h -> h.claim(0));
        Refusal.none("taken by a bar", () -> Scene.after(GameSentences::withPrize, h -> h.bar(0, 1)), h -> h.claim(0));
        Doc.order(50, Doc.INDEX, Doc.NONE);
        Refusal.index("no guest, no prizes", THREE, h -> h.claim(3));
        Refusal.index("-1, no prizes", THREE, h -> h.claim(-1));
    }

    /** Each of three guests has a prize of 1 chip. */
    private static ShoeHouse withThreePrizes() {
        return Scene.after(THREE, h -> {
            for (int guest = 0; guest < 3; guest++) {
                h.ticket(guest, 123);
            }
            h.draw(123);
            h.confirm();
        });
    }

    private static void pool() {
        Doc.says(51, "Returns the pool.", "Returns the chips.");
        Expect.same("none at first", new ShoeHouse().pool(), 0);
        for (int tickets = 1; tickets <= 12; tickets++) {
            Expect.same("2 chips each", withTickets(tickets).pool(), 2 * tickets);
        }
        Expect.same("a draw takes none", Scene.after(() -> withTickets(12), h -> h.draw(123)).pool(), 24);
        Expect.same("less what goes to winners", Scene.after(() -> withTickets(12), h -> {
            h.draw(123);
            h.confirm();
        }).pool(), 12);
        Expect.same("a prize that was not claimed", Scene.later(withPrize(), 4).pool(), 2);
        Expect.same("not yet", Scene.later(withPrize(), 3).pool(), 1);
    }
}
