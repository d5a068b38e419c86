import java.math.BigInteger;

/** Promises 52 to 66: what is asked, and figures. */
public final class FiguresTest {
    private FiguresTest() {
    }

    public static void main(String[] args) {
        questions();
        ruins();
        checksums();
        bitsOfTheVault();
        shares();
        means();
        Expect.end(FiguresTest.class);
    }

    private static void questions() {
        ShoeHouse house = Scene.withGuests(2, 100);
        for (int guest : new int[] {2, -1, 8, Integer.MAX_VALUE, Integer.MIN_VALUE}) {
            Expect.index(house, "money", () -> house.money(guest));
            Expect.index(house, "chips", () -> house.chips(guest));
            Expect.index(house, "isBarred", () -> house.isBarred(guest));
            Expect.index(house, "staked", () -> house.staked(guest));
            Expect.index(house, "reports", () -> house.reports(guest));
        }
        for (int table : new int[] {3, -1, Integer.MAX_VALUE, Integer.MIN_VALUE}) {
            Expect.index(house, "tray", () -> house.tray(table));
        }
        house.fill(0, 3);
        house.fill(1, 4);
        house.fill(2, 5);
        Expect.same("tray", house.tray(0), 3);
        Expect.same("tray", house.tray(1), 4);
        Expect.same("tray", house.tray(2), 5);
        Expect.same("vault", house.vault(), 99788);
        house.wager(1, 'r', 0, 7);
        Expect.same("staked", house.staked(1), 7);
        Expect.same("staked", house.staked(0), 0);
        house.ticket(1, 123);
        Expect.same("a ticket is a stake", house.staked(1), 9);
        Expect.same("money", house.money(1), 8900);
        Expect.same("day", house.day(), 0);
        Expect.same("day", house.pass(2), house.day());
        Expect.same("staked", house.staked(1), 0);
    }

    private static void ruins() {
        ShoeHouse house = new ShoeHouse();
        for (int[] wrong : new int[][] {{0, 0}, {1, 0}, {0, 15}, {-1, 5}, {6, 5}, {3, -3}, {0, Integer.MAX_VALUE}}) {
            Expect.argument(house, "ruinOver", () -> house.ruinOver(wrong[0], wrong[1]));
            Expect.argument(house, "ruinUnder", () -> house.ruinUnder(wrong[0], wrong[1]));
        }
        Expect.same("the example", house.ruinOver(1, 2), 18);
        Expect.same("the example", house.ruinUnder(1, 2), 37);
        for (int goal = 1; goal <= 14; goal++) {
            BigInteger[] over = new BigInteger[goal + 1];
            BigInteger[] under = new BigInteger[goal + 1];
            for (int chips = 0; chips <= goal; chips++) {
                over[chips] = BigInteger.valueOf(house.ruinOver(chips, goal));
                under[chips] = BigInteger.valueOf(house.ruinUnder(chips, goal));
                Expect.same("lowest terms", over[chips].gcd(under[chips]).longValue(), 1);
                Expect.same("no part below 0", under[chips].signum() > 0 && over[chips].signum() >= 0, true);
            }
            Expect.same("none", over[0].longValue() == 0 && under[0].longValue() == 1, true);
            Expect.same("all", over[goal].longValue() == 1 && under[goal].longValue() == 1, true);
            for (int chips = 1; chips < goal; chips++) {
                Expect.same("18 of 37 win", isMean(over, under, chips), true);
            }
        }
    }

    /** The chance at a number of chips is 18 by 37 of the next one and 19 by 37 of the one before. */
    private static boolean isMean(BigInteger[] over, BigInteger[] under, int chips) {
        BigInteger more = over[chips + 1].multiply(under[chips - 1]).multiply(BigInteger.valueOf(18));
        BigInteger less = over[chips - 1].multiply(under[chips + 1]).multiply(BigInteger.valueOf(19));
        BigInteger both = under[chips - 1].multiply(under[chips + 1]).multiply(BigInteger.valueOf(37));
        return more.add(less).multiply(under[chips]).equals(over[chips].multiply(both));
    }

    private static long sum(long... parts) {
        long sum = 7;
        for (long part : parts) {
            sum = 31 * sum + part;
        }
        return sum;
    }

    private static void checksums() {
        ShoeHouse house = new ShoeHouse();
        Expect.same("no guests", house.checksum(), sum(0, 0, 0, 100000, 0, 0));
        house.guest(500);
        house.guest(70);
        house.buyIn(0, 100);
        Expect.same("guests", house.checksum(), sum(400, 100, 70, 0, 0, 0, 0, 99900, 0, 0));
        house.fill(0, 1);
        house.fill(1, 2);
        house.fill(2, 3);
        house.pull(0, 30);
        house.stop(0);
        house.ticket(0, 123);
        Expect.same("all", house.checksum(), sum(400, 68, 70, 0, 1, 2, 30, 99894, 3, 2));
        house.wager(0, 'n', 3, 68);
        house.spin(3);
        Expect.same("a payment", house.checksum(), sum(400, 36 * 68, 70, 0, 1, 0, 30, 99896 - 35 * 68, 3, 2));
        for (int i = 0; i < 6; i++) {
            house.guest(99999);
        }
        Expect.same("it wraps around", house.checksum(), sum(400, 2448, 70, 0, 99999, 0, 99999, 0, 99999, 0,
            99999, 0, 99999, 0, 99999, 0, 1, 0, 30, 97516, 3, 2));
    }

    private static int bits(int vault) {
        return Float.floatToIntBits((float) vault / (float) 100000);
    }

    private static void bitsOfTheVault() {
        ShoeHouse house = new ShoeHouse();
        Expect.same("one", house.vaultBits(), bits(100000));
        house.guest(99999);
        house.guest(99999);
        for (int i = 0; i < 10; i++) {
            house.buyIn(0, 9999);
            Expect.same("bits", house.vaultBits(), bits(house.vault()));
        }
        for (int i = 10; i > 0; i--) {
            Expect.same("bits of " + i, house.vaultBits(), bits(i));
            house.buyIn(1, 1);
        }
        Expect.same("bits of 0", house.vaultBits(), 0);
        house.wager(0, 'r', 0, 1);
        house.spin(1);
        Expect.same("below 0", house.vault(), -1);
        Expect.same("bits below 0", house.vaultBits(), bits(-1));
        for (int i = 0; i < 9; i++) {
            house.wager(0, 'n', 3, 440 + i);
            house.spin(3);
            Expect.same("bits below 0", house.vaultBits(), bits(house.vault()));
        }
        Expect.same("far below 0", house.vault() < -100000, true);
        ShoeHouse deep = Scene.withGuests(7, 9000);
        for (int guest = 0; guest < 7; guest++) {
            for (int i = 0; i < 10; i++) {
                deep.wager(guest, 'n', 17, 500);
            }
            deep.spin(17);
            Expect.same("bits far below 0", deep.vaultBits(), bits(deep.vault()));
        }
        Expect.same("some -12 times all chips", deep.vault(), 37000 - 7 * 175000);
    }

    private static void shares() {
        ShoeHouse house = new ShoeHouse();
        Expect.arithmetic(house, "no guests", house::barredShare);
        for (int i = 0; i < 7; i++) {
            house.guest(1);
            Expect.same("none barred", house.barredShare(), 0.0f);
        }
        house.bar(0, 1);
        Expect.same("1 of 7", house.barredShare(), (float) 1 / (float) 7);
        house.bar(3, 2);
        house.bar(6, 2);
        Expect.same("3 of 7", house.barredShare(), (float) 3 / (float) 7);
        house.pass(1);
        Expect.same("2 of 7", house.barredShare(), (float) 2 / (float) 7);
        house.pass(1);
        Expect.same("0 of 7", house.barredShare(), 0.0f);
    }

    private static void means() {
        ShoeHouse house = new ShoeHouse();
        Expect.arithmetic(house, "no guests", house::meanChips);
        house.guest(100);
        Expect.same("none", house.meanChips(), 0.0);
        house.buyIn(0, 100);
        Expect.same("100 of 1", house.meanChips(), 100.0);
        house.guest(100);
        house.guest(100);
        Expect.same("100 of 3", house.meanChips(), (double) 100 / (double) 3);
        house.buyIn(2, 1);
        Expect.same("101 of 3", house.meanChips(), (double) 101 / (double) 3);
        house.wager(0, 'r', 0, 1);
        Expect.same("what lies on a table is not counted", house.meanChips(), (double) 100 / (double) 3);
    }
}
