/** Promises 35 and 36: wagers and the wheel. */
public final class WheelTest {
    private static final int[] RED = {1, 3, 5, 7, 9, 12, 14, 16, 18, 19, 21, 23, 25, 27, 30, 32, 34, 36};

    private WheelTest() {
    }

    public static void main(String[] args) {
        refusals();
        chipsAndLimits();
        allNumbers();
        oneByOne();
        manyWagers();
        theExample();
        Expect.end(WheelTest.class);
    }

    private static void refusals() {
        ShoeHouse house = Scene.withGuests(1, 1000);
        Expect.index(house, "guest 1", () -> house.wager(1, 'r', 0, 5));
        Expect.index(house, "guest -1", () -> house.wager(-1, 'x', 0, 0));
        for (char kind : new char[] {'N', 'a', 'c', 'e', 'm', 'o', 'q', 's', (char) 0, (char) 65535}) {
            Expect.argument(house, "no kind", () -> house.wager(0, kind, 0, 5));
        }
        Expect.argument(house, "number 37", () -> house.wager(0, 'n', 37, 5));
        Expect.argument(house, "number -1", () -> house.wager(0, 'n', -1, 5));
        Expect.argument(house, "dozen 3", () -> house.wager(0, 'd', 3, 5));
        Expect.argument(house, "dozen -1", () -> house.wager(0, 'd', -1, 5));
        Expect.argument(house, "0 chips", () -> house.wager(0, 'r', 0, 0));
        Expect.argument(house, "501 chips", () -> house.wager(0, 'r', 0, 501));
        Expect.argument(house, "spin 37", () -> house.spin(37));
        Expect.argument(house, "spin -1", () -> house.spin(-1));
        Expect.same("no meaning of the number", house.wager(0, 'r', Integer.MIN_VALUE, 1), 1);
        Expect.same("no meaning of the number", house.wager(0, 'b', 99, 500), 2);
        Expect.unsupported(house, "not so many chips", () -> house.wager(0, 'r', 0, 500));
        Expect.same("all chips", house.wager(0, 'r', 0, 499), 3);
        Expect.same("staked", house.staked(0), 1000);
        Expect.same("on the table", house.chips(0), 0);
        Expect.same("not in the tray", house.tray(1), 0);
        Expect.same("sound", house.isSound(), true);
    }

    private static void chipsAndLimits() {
        ShoeHouse house = Scene.withGuests(1, 1000);
        house.limit(0, 100);
        Expect.unsupported(house, "above the limit", () -> house.wager(0, 'r', 0, 101));
        Expect.same("wager", house.wager(0, 'r', 0, 91), 1);
        for (int i = 0; i < 9; i++) {
            Expect.same("wager", house.wager(0, 'r', 0, 1), i + 2);
        }
        Expect.unsupported(house, "above the limit, and there are 10", () -> house.wager(0, 'r', 0, 1));
        house.pass(1);
        Expect.state(house, "there are 10", () -> house.wager(0, 'r', 0, 1));
        Expect.argument(house, "there are 10, 0 chips", () -> house.wager(0, 'r', 0, 0));
        Expect.same("spin", house.spin(0), 0);
        Expect.same("the table is free", house.wager(0, 'r', 0, 1), 1);
    }

    private static boolean isRed(int number) {
        for (int red : RED) {
            if (red == number) {
                return true;
            }
        }
        return false;
    }

    private static void allNumbers() {
        ShoeHouse house = Scene.withGuests(1, 5000);
        house.fill(1, 9999);
        int tray = 9999;
        for (int number = 0; number <= 36; number++) {
            house.wager(0, 'r', 0, 2);
            house.wager(0, 'b', 0, 4);
            house.wager(0, 'd', 0, 8);
            house.wager(0, 'd', 1, 16);
            house.wager(0, 'd', 2, 32);
            house.wager(0, 'n', number, 1);
            house.wager(0, 'n', (number + 1) % 37, 1);
            int dozen = number == 0 ? 0 : 3 * (8 << ((number - 1) / 12));
            int colour = number == 0 ? 0 : isRed(number) ? 4 : 8;
            int due = 36 + dozen + colour;
            Expect.same("paid at " + number, house.spin(number), due);
            tray += 64 - due;
            Expect.same("tray at " + number, house.tray(1), tray);
        }
        Expect.same("the vault paid nothing", house.vault(), 85001);
        Expect.same("sound", house.isSound(), true);
    }

    private static void oneByOne() {
        ShoeHouse house = Scene.withGuests(2, 1000);
        house.wager(0, 'r', 0, 10);
        house.wager(1, 'b', 0, 10);
        Expect.same("20 are paid", house.spin(1), 20);
        Expect.same("the vault pays the first", house.vault(), 97990);
        Expect.same("the second one goes into the tray", house.tray(1), 10);
        Expect.same("win", house.win(1), 0);
        house.wager(0, 'b', 0, 5);
        house.wager(1, 'd', 0, 10);
        Expect.same("30 are paid", house.spin(3), 30);
        Expect.same("from the tray, then the vault", house.tray(1), 0);
        Expect.same("from the tray, then the vault", house.vault(), 97985);
        Expect.same("chips", house.chips(0), 1005);
        Expect.same("chips", house.chips(1), 1010);
    }

    private static void manyWagers() {
        ShoeHouse house = Scene.withGuests(8, 9000);
        for (int guest = 0; guest < 7; guest++) {
            for (int i = 0; i < 10; i++) {
                house.wager(guest, 'n', 17, 500);
            }
            Expect.same("paid", house.spin(17), 180000);
        }
        Expect.same("the vault has less than 0", house.vault(), 28000 - 7 * 175000);
        Expect.same("the loss", house.win(1), -7 * 175000);
        Expect.same("sound", house.isSound(), true);
        Expect.unsupported(house, "the vault has not", () -> house.buyIn(7, 1));
        Expect.unsupported(house, "the vault has not", () -> house.fill(0, 1));
    }

    private static void theExample() {
        ShoeHouse house = new ShoeHouse();
        Expect.same("guest", house.guest(500), 0);
        Expect.same("buyIn", house.buyIn(0, 100), 100);
        Expect.same("wager", house.wager(0, 'r', 0, 10), 1);
        Expect.same("spin", house.spin(1), 20);
        Expect.same("chips", house.chips(0), 110);
        Expect.same("tray", house.tray(1), 0);
        Expect.same("no wagers", house.spin(1), 0);
    }
}
