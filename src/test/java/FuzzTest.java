import java.util.Random;

/** Any calls with any arguments: only the exceptions of the document, which change nothing, and a house that stays sound. */
public final class FuzzTest {
    private static final int RUNS = 300;
    private static final int CALLS = 500;
    private static final int BAR = 4;
    private static final String[] ALLOWED = {
        "IA IS", "IX IA UO", "IX IA UO", "IX IA", "IX IA", "IA IS", "IX IA UO", "IX IA UO", "", "IX",
        "IA IS", "IA IS", "IA IS", "UO IS", "IX IA UO IS", "UO IS", "IX IS UO", "IX IS UO", "IX IS UO", "IX IS UO",
        "IX IS UO", "IX NS", "NS", "IS", "IA", "IA AR", "IA AR", "IA IS", "IA", "", "AR", "IX", "",
        "IX IA UO IS", "IA", "IX IA IS", "IA IS", "IA IS", "IX IA UO IS", "IA IS", "IS", "IS", "", "", "",
        "IX IA UO IS", "IA", "IS", "IX NS", "", "", "IX", "IX", "IX", "IX", "IX", "IX", "", "IA", "IA",
        "", "", "AR", "AR", ""
    };

    private FuzzTest() {
    }

    public static void main(String[] args) {
        int[] answered = new int[ALLOWED.length];
        for (int run = 0; run < RUNS; run++) {
            run(run, answered);
        }
        for (int call = 0; call < ALLOWED.length; call++) {
            Expect.same("call " + call + " is answered at times", answered[call] > 0, true);
        }
        Expect.end(FuzzTest.class);
    }

    private static void run(int seed, int[] answered) {
        Random random = new Random(seed);
        ShoeHouse house = new ShoeHouse();
        house.guest(99999);
        house.guest(50000);
        house.buyIn(0, 9000);
        house.buyIn(1, 9000);
        for (int i = 0; i < CALLS; i++) {
            int call = random.nextInt(ALLOWED.length);
            String before = Snapshot.of(house);
            String hands = Snapshot.hands(house);
            boolean wasOn = Scene.isOn(house);
            String thrown = "";
            try {
                make(house, call, random);
                answered[call]++;
            } catch (RuntimeException refused) {
                thrown = shortName(refused);
            }
            if (!thrown.isEmpty()) {
                String where = "run " + seed + ", call " + call + " throws " + thrown;
                Expect.same(where, (" " + ALLOWED[call] + " ").contains(" " + thrown + " "), true);
                Expect.same(where + ", changes nothing", before.equals(Snapshot.of(house)), true);
            }
            if (i % 25 == 0) {
                Expect.same("run " + seed + " is sound", house.isSound(), true);
            }
            handsHaveCards(house, seed);
            if (call == BAR && !wasOn) {
                Expect.same("run " + seed + ", a bar between rounds takes no hand", Snapshot.hands(house), hands);
            }
        }
    }

    /** Each hand has two cards or more, so where there is no card at the first two places there is no hand. */
    private static void handsHaveCards(ShoeHouse house, int seed) {
        for (int seat = 0; seat < 3; seat++) {
            for (int hand = 0; hand < 2; hand++) {
                String first = cardOrRefusal(house, seat, hand, 0);
                String where = "run " + seed + ", hand " + hand + " at seat " + seat + ": " + first;
                Expect.same(where, first.equals("card") || first.equals("IX"), true);
                Expect.same(where, cardOrRefusal(house, seat, hand, 1), first);
                Expect.same(where, cardOrRefusal(house, seat, hand, -1), first.equals("card") ? "NS" : "IX");
            }
        }
    }

    private static String cardOrRefusal(ShoeHouse house, int seat, int hand, int place) {
        try {
            return house.cardAt(seat, hand, place) >= 1 ? "card" : "no rank";
        } catch (RuntimeException refused) {
            return shortName(refused);
        }
    }

    private static String shortName(RuntimeException thrown) {
        switch (thrown.getClass().getName()) {
            case "java.lang.IllegalArgumentException": return "IA";
            case "java.lang.IllegalStateException": return "IS";
            case "java.lang.IndexOutOfBoundsException": return "IX";
            case "java.lang.UnsupportedOperationException": return "UO";
            case "java.util.NoSuchElementException": return "NS";
            case "java.lang.ArithmeticException": return "AR";
            default: return thrown.toString();
        }
    }

    /** Mostly a number near the range, at times any number. */
    private static int number(Random random, int least, int most) {
        int kind = random.nextInt(20);
        if (kind == 0) {
            return random.nextInt();
        }
        if (kind == 1) {
            return random.nextBoolean() ? least - 1 : most + 1;
        }
        if (kind == 2) {
            return random.nextBoolean() ? Integer.MIN_VALUE : Integer.MAX_VALUE;
        }
        return least + random.nextInt(most - least + 1);
    }

    private static int guest(Random random) {
        return number(random, 0, 3);
    }

    private static int seat(ShoeHouse house, Random random) {
        if (random.nextInt(4) > 0) {
            try {
                return house.turn();
            } catch (IllegalStateException none) {
                return number(random, 0, 2);
            }
        }
        return number(random, 0, 2);
    }

    private static void make(ShoeHouse house, int call, Random random) {
        if (call < 16) {
            makeFirst(house, call, random);
        } else if (call < 33) {
            makeOfRounds(house, call, random);
        } else if (call < 50) {
            makeOfPlay(house, call, random);
        } else {
            ask(house, call, random);
        }
    }

    private static void makeFirst(ShoeHouse house, int call, Random random) {
        switch (call) {
            case 0: house.guest(number(random, 0, 99999)); break;
            case 1: house.buyIn(guest(random), number(random, 1, 9999)); break;
            case 2: house.cashOut(guest(random), number(random, 1, 999)); break;
            case 3: house.limit(guest(random), number(random, 0, 5000)); break;
            case BAR: house.bar(guest(random), number(random, house.day() + 1, house.day() + 9)); break;
            case 5: house.pass(number(random, 1, 9)); break;
            case 6: house.fill(number(random, 0, 2), number(random, 1, 999)); break;
            case 7: house.credit(number(random, 0, 2), number(random, 1, 99)); break;
            case 8: house.shift(); break;
            case 9: house.win(number(random, 0, 2)); break;
            case 10: house.rule("dusnx".charAt(random.nextInt(5)), random.nextBoolean()); break;
            case 11: house.lay(number(random, 1, 2)); break;
            case 12: house.cut(number(random, 1, 51)); break;
            case 13: house.riffle(random.nextBoolean()); break;
            case 14: house.bet(number(random, 0, 2), guest(random), number(random, 2, 99)); break;
            default: house.deal(); break;
        }
    }

    private static void makeOfRounds(ShoeHouse house, int call, Random random) {
        switch (call) {
            case 16: house.hit(seat(house, random)); break;
            case 17: house.stand(seat(house, random)); break;
            case 18: house.twice(seat(house, random)); break;
            case 19: house.split(seat(house, random)); break;
            case 20: house.surrender(seat(house, random)); break;
            case 21: house.cardAt(seat(house, random), number(random, 0, 1), number(random, 0, 3)); break;
            case 22: house.dealerAt(number(random, 0, 3)); break;
            case 23: house.turn(); break;
            case 24: house.left(number(random, 1, 10)); break;
            case 25: house.bustOver(number(random, 4, 21)); break;
            case 26: house.bustUnder(number(random, 4, 21)); break;
            case 27: house.dealerEnds(number(random, 17, 22)); break;
            case 28: house.weigh(number(random, 1, 10), number(random, -3, 3)); break;
            case 29: house.count(); break;
            case 30: house.trueCount(); break;
            case 31: house.isSuspected(guest(random)); break;
            default: house.broken(); break;
        }
    }

    private static void makeOfPlay(ShoeHouse house, int call, Random random) {
        switch (call) {
            case 33: house.wager(guest(random), "nrbdx".charAt(random.nextInt(5)), number(random, 0, 2),
                number(random, 1, 99)); break;
            case 34: house.spin(number(random, 0, 36)); break;
            case 35: house.stops(number(random, 0, 2), random.nextInt(4) == 0 ? random.nextInt() : 11100044); break;
            case 36: house.pays(number(random, 0, 4), number(random, 0, 200)); break;
            case 37: house.bound(number(random, 1, 50)); break;
            case 38: house.pull(guest(random), number(random, 1, 100)); break;
            case 39: house.stop(number(random, 0, 77)); break;
            case 40: house.tilt(); break;
            case 41: house.recover(); break;
            case 42: house.pot(); break;
            case 43: house.returnOver(); break;
            case 44: house.returnUnder(); break;
            case 45: house.ticket(guest(random), number(random, 120, 130)); break;
            case 46: house.draw(number(random, 120, 130)); break;
            case 47: house.confirm(); break;
            case 48: house.claim(guest(random)); break;
            default: house.pool(); break;
        }
    }

    private static void ask(ShoeHouse house, int call, Random random) {
        switch (call) {
            case 50: house.day(); break;
            case 51: house.money(guest(random)); break;
            case 52: house.chips(guest(random)); break;
            case 53: house.isBarred(guest(random)); break;
            case 54: house.staked(guest(random)); break;
            case 55: house.reports(guest(random)); break;
            case 56: house.tray(number(random, 0, 2)); break;
            case 57: house.vault(); break;
            case 58: house.ruinOver(number(random, 0, 9), number(random, 1, 14)); break;
            case 59: house.ruinUnder(number(random, 0, 9), number(random, 1, 14)); break;
            case 60: house.checksum(); break;
            case 61: house.vaultBits(); break;
            case 62: house.barredShare(); break;
            case 63: house.meanChips(); break;
            default: house.isSound(); break;
        }
    }
}
