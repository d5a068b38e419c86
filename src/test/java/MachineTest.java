/** Promises 37 to 46: reels, pays, the pot, spins, tilts and what the machine returns. */
public final class MachineTest {
    private MachineTest() {
    }

    public static void main(String[] args) {
        tellingSymbols();
        tellingPays();
        tellingBounds();
        pulling();
        stopsThatAreRefused();
        paying();
        payingFromTrayAndVault();
        thePot();
        thePotThatMustBeHit();
        tilting();
        returns();
        returnsOfUnlikeReels();
        Expect.end(MachineTest.class);
    }

    private static void tellingSymbols() {
        ShoeHouse house = Scene.withGuests(1, 100);
        Expect.index(house, "reel 3", () -> house.stops(3, 9));
        Expect.index(house, "reel -1", () -> house.stops(-1, 0));
        Expect.argument(house, "a digit of 5", () -> house.stops(0, 5));
        Expect.argument(house, "a digit of 9", () -> house.stops(0, 90000000));
        Expect.argument(house, "a digit of 5 in the middle", () -> house.stops(0, 44454444));
        Expect.argument(house, "nine digits", () -> house.stops(0, 100000000));
        Expect.argument(house, "below 0", () -> house.stops(0, -1));
        Expect.argument(house, "far below 0", () -> house.stops(0, Integer.MIN_VALUE));
        Expect.argument(house, "far above", () -> house.stops(0, Integer.MAX_VALUE));
        Expect.same("all 4 at first", house.stops(0, 44444444), 0);
        Expect.same("one changes", house.stops(0, 44444440), 1);
        Expect.same("leading zeros", house.stops(0, 0), 7);
        Expect.same("another reel", house.stops(1, 1234), 7);
        Expect.same("the last reel", house.stops(2, 43210000), 7);
        Expect.same("four change", house.stops(2, 41230040), 3);
        house.pull(0, 1);
        Expect.state(house, "a spin goes on", () -> house.stops(0, 1));
        Expect.argument(house, "a spin goes on, 5", () -> house.stops(0, 5));
        house.tilt();
        Expect.same("a tilted spin does not go on", house.stops(0, 1), 1);
    }

    private static void tellingPays() {
        ShoeHouse house = Scene.withGuests(1, 100);
        Expect.argument(house, "symbol 5", () -> house.pays(5, 1));
        Expect.argument(house, "symbol -1", () -> house.pays(-1, 1));
        Expect.argument(house, "-1 times", () -> house.pays(0, -1));
        Expect.argument(house, "201 times", () -> house.pays(0, 201));
        for (int symbol = 0; symbol < 5; symbol++) {
            Expect.same("at first", house.pays(symbol, 200), 0);
            Expect.same("told", house.pays(symbol, symbol), 200);
        }
        for (int symbol = 0; symbol < 5; symbol++) {
            Expect.same("each by itself", house.pays(symbol, 0), symbol);
        }
        house.pull(0, 1);
        Expect.state(house, "a spin goes on", () -> house.pays(0, 1));
        Expect.argument(house, "a spin goes on, 201", () -> house.pays(0, 201));
        house.stop(0);
        Expect.same("after it", house.pays(0, 1), 0);
    }

    private static void tellingBounds() {
        ShoeHouse house = Scene.withGuests(1, 100);
        Expect.argument(house, "0", () -> house.bound(0));
        Expect.argument(house, "5001", () -> house.bound(5001));
        Expect.same("at first", house.bound(5000), 500);
        Expect.same("told", house.bound(1), 5000);
        house.pull(0, 1);
        Expect.state(house, "a spin goes on", () -> house.bound(9));
        Expect.argument(house, "a spin goes on, 0", () -> house.bound(0));
        house.tilt();
        Expect.same("a tilted spin does not go on", house.bound(7), 1);
    }

    private static void pulling() {
        ShoeHouse house = Scene.withGuests(2, 150);
        Expect.index(house, "guest 2", () -> house.pull(2, 0));
        Expect.index(house, "guest -1", () -> house.pull(-1, 1));
        Expect.argument(house, "0 chips", () -> house.pull(0, 0));
        Expect.argument(house, "101 chips", () -> house.pull(0, 101));
        Expect.same("100 chips", house.pull(0, 100), 50);
        Expect.state(house, "a spin goes on", () -> house.pull(1, 1));
        Expect.unsupported(house, "a spin goes on, not so many chips", () -> house.pull(0, 51));
        Expect.same("staked", house.staked(0), 100);
        Expect.same("it lies on the table", house.pot() + house.tray(2), 0);
        Expect.same("sound", house.isSound(), true);
        house.stop(0);
        house.limit(0, 120);
        Expect.unsupported(house, "above the limit", () -> house.pull(0, 21));
        Expect.same("up to the limit", house.pull(0, 20), 30);
        house.tilt();
        Expect.state(house, "is to be recovered", () -> house.pull(1, 1));
    }

    private static void stopsThatAreRefused() {
        ShoeHouse house = Scene.withGuests(1, 100);
        Expect.state(house, "no spin", () -> house.stop(0));
        Expect.argument(house, "no spin, 8", () -> house.stop(8));
        Expect.state(house, "no spin", house::tilt);
        Expect.state(house, "no spin", house::recover);
        house.pull(0, 10);
        Expect.argument(house, "8", () -> house.stop(8));
        Expect.argument(house, "80", () -> house.stop(80));
        Expect.argument(house, "800", () -> house.stop(800));
        Expect.argument(house, "1000", () -> house.stop(1000));
        Expect.argument(house, "-1", () -> house.stop(-1));
        Expect.argument(house, "-111", () -> house.stop(-111));
        Expect.same("777", house.stop(777), 0);
        Expect.state(house, "over", () -> house.stop(0));
    }

    private static void tellReels(ShoeHouse house) {
        house.stops(0, 1234012);
        house.stops(1, 12340123);
        house.stops(2, 23401234);
    }

    private static void paying() {
        ShoeHouse house = Scene.withGuests(2, 1000);
        tellReels(house);
        for (int symbol = 0; symbol < 5; symbol++) {
            house.pays(symbol, symbol + 2);
        }
        house.fill(2, 5000);
        int[] stops = {210, 104, 43, 432, 321};
        int[] symbols = {2, 1, 0, 4, 3};
        int pot = 0;
        for (int i = 0; i < stops.length; i++) {
            house.pull(0, 25);
            pot += 2;
            int due = (symbols[i] + 2) * 25 + (symbols[i] == 0 ? pot : 0);
            Expect.same("three " + symbols[i], house.stop(stops[i]), due);
            pot = symbols[i] == 0 ? 0 : pot;
            Expect.same("pot", house.pot(), pot);
        }
        house.pull(1, 19);
        Expect.same("two alike", house.stop(211), 0);
        house.pull(1, 19);
        Expect.same("two alike", house.stop(200), 0);
        house.pull(1, 19);
        Expect.same("two alike", house.stop(10), 0);
        Expect.same("a tenth, cut, thrice", house.pot(), pot + 3);
        Expect.same("the stakes are lost", house.chips(1), 943);
        Expect.same("sound", house.isSound(), true);
    }

    private static void payingFromTrayAndVault() {
        ShoeHouse house = Scene.withGuests(1, 1000);
        house.pays(4, 10);
        house.pull(0, 55);
        Expect.same("550", house.stop(0), 550);
        Expect.same("pot", house.pot(), 5);
        Expect.same("the rest of the stake pays first", house.tray(2), 0);
        Expect.same("the vault pays what lacks", house.vault(), 99000 - 500);
        Expect.same("win", house.win(2), -500);
        Expect.same("chips", house.chips(0), 1495);
        house.pays(4, 0);
        house.pull(0, 9);
        Expect.same("nothing", house.stop(0), 0);
        Expect.same("a tenth of 9 is none", house.pot(), 5);
        Expect.same("tray", house.tray(2), 9);
        Expect.same("win", house.win(2), -491);
    }

    private static void thePot() {
        ShoeHouse house = Scene.withGuests(2, 1000);
        house.stops(0, 44444440);
        house.stops(1, 44444440);
        house.stops(2, 44444440);
        house.pull(0, 100);
        Expect.same("not the pot", house.stop(0), 0);
        house.pull(1, 30);
        Expect.same("with this tenth", house.stop(777), 13);
        Expect.same("pot", house.pot(), 0);
        Expect.same("tray", house.tray(2), 117);
        house.pays(0, 2);
        house.pull(1, 30);
        Expect.same("the pot besides", house.stop(777), 63);
        Expect.same("chips", house.chips(1), 1000 - 60 + 76);
        Expect.same("sound", house.isSound(), true);
    }

    private static void thePotThatMustBeHit() {
        ShoeHouse house = Scene.withGuests(2, 1000);
        house.stops(0, 12341234);
        house.bound(20);
        house.pull(0, 100);
        house.stop(0);
        house.pull(0, 90);
        Expect.same("19 at the end", house.stop(0), 0);
        house.pull(0, 10);
        Expect.same("19 as it began", house.stop(0), 0);
        Expect.same("20", house.pot(), 20);
        house.pull(1, 10);
        house.tilt();
        house.recover();
        house.bound(21);
        house.pull(1, 9);
        Expect.same("20 are not 21", house.stop(0), 0);
        house.bound(20);
        house.pull(1, 55);
        Expect.same("20 and this tenth", house.stop(0), 25);
        Expect.same("pot", house.pot(), 0);
        house.pull(1, 100);
        Expect.same("once", house.stop(0), 0);
        Expect.same("pot", house.pot(), 10);
        house.bound(1);
        house.pays(4, 3);
        house.pull(1, 10);
        Expect.same("with three alike", house.stop(300), 41);
        Expect.same("sound", house.isSound(), true);
    }

    private static void tilting() {
        ShoeHouse house = Scene.withGuests(2, 1000);
        house.pull(0, 77);
        Expect.state(house, "none to be recovered", house::recover);
        Expect.same("tilt", house.tilt(), 77);
        Expect.same("nothing comes back yet", house.chips(0), 923);
        Expect.state(house, "tilted already", house::tilt);
        Expect.state(house, "tilted", () -> house.stop(0));
        Expect.same("sound", house.isSound(), true);
        Expect.same("recover", house.recover(), 1000);
        Expect.state(house, "recovered already", house::recover);
        Expect.state(house, "no spin", () -> house.stop(0));
        Expect.same("the stake counts to the limit", house.staked(0), 77);
        Expect.same("nothing else moved", house.pot() + house.tray(2), 0);
        Expect.same("the next spin", house.pull(1, 5), 995);
        Expect.same("stop", house.stop(0), 0);
    }

    private static void returns() {
        ShoeHouse house = new ShoeHouse();
        Expect.same("nothing", house.returnOver(), 0);
        Expect.same("nothing", house.returnUnder(), 1);
        house.pays(4, 7);
        Expect.same("always three 4", house.returnOver(), 7);
        Expect.same("always three 4", house.returnUnder(), 1);
        house.stops(0, 44444440);
        Expect.same("7 of 8", house.returnOver(), 49);
        Expect.same("7 of 8", house.returnUnder(), 8);
        house.pays(4, 200);
        Expect.same("in lowest terms", house.returnOver(), 175);
        Expect.same("in lowest terms", house.returnUnder(), 1);
        house.pays(0, 100);
        Expect.same("no three 0", house.returnOver(), 175);
    }

    private static void returnsOfUnlikeReels() {
        ShoeHouse house = new ShoeHouse();
        tellReels(house);
        for (int symbol = 0; symbol < 5; symbol++) {
            house.pays(symbol, 1 << symbol);
        }
        // Of 0 to 4 the reels show 2 2 2 1 1, 1 2 2 2 1 and 1 1 2 2 2 times.
        int due = 2 + 4 * 2 + 8 * 4 + 4 * 8 + 2 * 16;
        Expect.same("over", house.returnOver(), due / 2);
        Expect.same("under", house.returnUnder(), 256);
        house.pays(0, 1);
        Expect.same("just that was told", house.pays(0, 3), 1);
        Expect.same("over", house.returnOver(), (due + 4) / 2);
    }
}
