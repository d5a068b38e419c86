import java.util.function.Supplier;

/** The sentences of the terms about chips and money, shifts and exceptions, and the examples. */
final class ChipTerms {
    private static final Supplier<ShoeHouse> TWO = () -> Scene.withGuests(2, 1000);

    private ChipTerms() {
    }

    static void run() {
        examples();
        neitherMadeNorLost();
        chips();
        trays();
        stakes();
        whatCountsToTheLimit();
        limitsOfDays();
        barredGuests();
        stakesComeBack();
        handsTakenAway();
        tickets();
        reported();
        shifts();
        refusals();
    }

    private static void examples() {
        Doc.term("- guest(500) = 0; buyIn(0, 100) = 100; wager(0, 'r', 0, 10) = 1; spin(1) = 20; chips(0) = 110; tray(1) = 0.");
        ShoeHouse house = new ShoeHouse();
        Expect.same("guest(500)", house.guest(500), 0);
        Expect.same("buyIn(0, 100)", house.buyIn(0, 100), 100);
        Expect.same("wager(0, 'r', 0, 10)", house.wager(0, 'r', 0, 10), 1);
        Expect.same("spin(1)", house.spin(1), 20);
        Expect.same("chips(0)", house.chips(0), 110);
        Expect.same("tray(1)", house.tray(1), 0);
        Doc.term("- lay(1) = 52; left(10) = 16; bustOver(12) = 4; bustUnder(12) = 13; riffle(true) = 1.");
        ShoeHouse shoe = new ShoeHouse();
        Expect.same("lay(1)", shoe.lay(1), 52);
        Expect.same("left(10)", shoe.left(10), 16);
        Expect.same("bustOver(12)", shoe.bustOver(12), 4);
        Expect.same("bustUnder(12)", shoe.bustUnder(12), 13);
        Expect.same("riffle(true)", shoe.riffle(true), 1);
        Doc.term("- ruinOver(1, 2) = 18; ruinUnder(1, 2) = 37.");
        Expect.same("ruinOver(1, 2)", new ShoeHouse().ruinOver(1, 2), 18);
        Expect.same("ruinUnder(1, 2)", new ShoeHouse().ruinUnder(1, 2), 37);
    }

    /** The chips of all that can be asked; what lies on a table and prizes are not among them. */
    private static int chipsTold(ShoeHouse house, int guests) {
        int sum = house.vault() + house.pot() + house.pool();
        for (int table = 0; table < 3; table++) {
            sum += house.tray(table);
        }
        for (int guest = 0; guest < guests; guest++) {
            sum += house.chips(guest);
        }
        return sum;
    }

    private static void neitherMadeNorLost() {
        Doc.term("Chips and money are neither made nor lost, and no barred guest's play stands.");
        for (int seed = 0; seed < 40; seed++) {
            ShoeHouse house = Scene.withGuests(2, 1000);
            house.rule('n', seed % 3 == 0);
            house.pays(4, seed % 5);
            for (int day = 0; day < 6; day++) {
                Scene.lay(house, 1 + seed % 2, "i " + (1 + 7 * seed % 50) + " o " + (2 + day) + " i");
                house.bet(day % 3, 0, 11);
                house.bet((day + 1) % 3, 1, 13);
                house.wager(0, 'r', 0, 7);
                house.wager(1, 'd', day % 3, 5);
                house.pull(0, 15);
                house.ticket(1, 123);
                house.deal();
                Scene.standAll(house);
                house.spin(seed % 37);
                house.stop(seed % 8);
                Expect.same("all chips", chipsTold(house, 2), 100000);
                house.draw(day % 2 == 0 ? 321 : 124);
                Expect.same("but what goes to winners", house.confirm() + chipsTold(house, 2), 100000);
                int prizes = 100000 - chipsTold(house, 2);
                Expect.same("what is claimed", prizes == 0 ? 0 : house.claim(1), prizes);
                house.pass(1);
            }
            Expect.same("sound", house.isSound(), true);
            int coins = house.money(0) + house.chips(0);
            Expect.same("all chips are money again", house.cashOut(0, house.chips(0)), coins);
        }
        ShoeHouse barred = staking(TWO.get());
        barred.bar(0, 1);
        Expect.same("as if not played", barred.chips(0), 1000);
        Expect.same("all chips", chipsTold(barred, 2), 100000);
    }

    /** Guest 0 has stakes of 20 in a round, of 5 at the wheel, of 10 at the machine. */
    private static ShoeHouse staking(ShoeHouse house) {
        house.bet(0, 0, 20);
        Scene.lay(house, 1, Cards.BUSTS);
        house.deal();
        house.wager(0, 'r', 0, 5);
        house.pull(0, 10);
        return house;
    }

    private static void chips() {
        Doc.term("There are 100000 chips, all in the vault at first;");
        Expect.same("vault", new ShoeHouse().vault(), 100000);
        Expect.same("all", chipsTold(new ShoeHouse(), 0), 100000);
        Refusal.unsupported("no other chips", () -> Scene.withVault(0), h -> h.buyIn(1, 1));
        Doc.term("a chip is a coin of money.");
        ShoeHouse house = new ShoeHouse();
        house.guest(70);
        Expect.same("chips", house.buyIn(0, 69), 69);
        Expect.same("money", house.money(0), 1);
        Expect.same("money again", house.cashOut(0, 68), 69);
        Expect.same("a chip", house.chips(0), 1);
        Doc.term("At most 8 guests are numbered from 0, each with money.");
        ShoeHouse many = new ShoeHouse();
        for (int guest = 0; guest < 8; guest++) {
            Expect.same("number", many.guest(10 * guest), guest);
        }
        Expect.state(many, "a ninth", () -> many.guest(5));
        for (int guest = 0; guest < 8; guest++) {
            Expect.same("money", many.money(guest), 10 * guest);
        }
        Expect.index(many, "guest 8", () -> many.money(8));
    }

    private static void trays() {
        Doc.term("Each of three tables has a tray of chips, none at first;");
        for (int table = 0; table < 3; table++) {
            Expect.same("none", new ShoeHouse().tray(table), 0);
        }
        Expect.index(new ShoeHouse(), "no fourth table", () -> new ShoeHouse().tray(3));
        Doc.term("what the house gets there goes into the tray, what it pays comes from there, and what that lacks from the vault, "
            + "which perhaps has less than 0 then.");
        ShoeHouse lost = staking(TWO.get());
        lost.hit(0);
        lost.spin(2);
        lost.stop(0);
        Expect.same("cards", lost.tray(0), 20);
        Expect.same("wheel", lost.tray(1), 5);
        Expect.same("machine", lost.tray(2), 9);
        Expect.same("the vault got nothing", lost.vault(), 98000);
        for (int filled : new int[] {0, 1, 19, 20, 21, 30}) {
            ShoeHouse won = Scene.staked(20, Cards.SOFT_ACE);
            fill(won, filled);
            won.deal();
            won.stand(0);
            paid(won, 0, filled, 20);
            ShoeHouse wheel = Scene.withGuests(1, 1000);
            fill(wheel, filled);
            wheel.wager(0, 'd', 0, 10);
            wheel.spin(1);
            paid(wheel, 1, filled, 20);
            ShoeHouse machine = Scene.withGuests(1, 1000);
            fill(machine, filled);
            machine.pays(4, 3);
            machine.pull(0, 10);
            machine.stop(0);
            paid(machine, 2, filled, 21);
        }
        ShoeHouse natural = Scene.withVault(0);
        natural.bet(0, 0, 1000);
        Scene.lay(natural, 1, Cards.SEAT_NATURAL);
        natural.deal();
        Expect.same("less than 0", natural.vault(), -1500);
        ShoeHouse deep = Scene.withVault(0);
        deep.pays(4, 200);
        deep.pull(0, 100);
        deep.stop(0);
        Expect.same("less than 0", deep.vault(), -20000 + 90);
        Expect.same("sound", deep.isSound(), true);
    }

    private static void fill(ShoeHouse house, int chips) {
        for (int table = 0; table < 3 && chips > 0; table++) {
            house.fill(table, chips);
        }
    }

    private static void paid(ShoeHouse house, int table, int filled, int paid) {
        Expect.same("tray of " + table, house.tray(table), Math.max(0, filled - paid));
        Expect.same("vault behind table " + table, house.vault(), 99000 - 3 * filled - Math.max(0, paid - filled));
    }

    private static void stakes() {
        Doc.term("A stake is taken from the chips of a guest and lies on the table until it is settled.");
        ShoeHouse house = TWO.get();
        house.bet(0, 0, 20);
        Expect.same("bet", house.chips(0), 980);
        house.wager(0, 'n', 0, 5);
        Expect.same("wager", house.chips(0), 975);
        house.pull(0, 10);
        Expect.same("pull", house.chips(0), 965);
        Expect.same("nothing moved else", house.vault() + house.tray(0) + house.tray(1) + house.tray(2) + house.pot(), 98000);
        Scene.lay(house, 1, Cards.EIGHTS);
        house.deal();
        house.split(0);
        Expect.same("split", house.chips(0), 945);
        Expect.same("it lies there", house.tray(0), 0);
        house.stand(0);
        Expect.same("till both are settled", house.tray(0), 0);
        house.hit(0);
        Expect.same("one lost, one won", house.chips(0), 985);
        house.spin(1);
        Expect.same("settled", house.tray(1), 5);
        house.stop(0);
        Expect.same("settled", house.tray(2) + house.pot(), 10);
        ShoeHouse twice = Scene.dealt(20, Cards.BUSTS);
        twice.twice(0);
        Expect.same("a double", twice.chips(0), 960);
    }

    private static void whatCountsToTheLimit() {
        Doc.term("What a guest stakes in a day counts to the limit, 5000 at first, also what comes back;");
        ShoeHouse all = Scene.withGuests(2, 9000);
        for (int i = 0; i < 4; i++) {
            all.bet(0, 0, 1000);
            Scene.lay(all, 1, Cards.EVEN_19);
            all.deal();
            all.stand(0);
        }
        Expect.same("they came back", all.chips(0), 9000);
        all.bet(1, 0, 900);
        all.wager(0, 'r', 0, 50);
        all.pull(0, 48);
        Expect.unsupported(all, "4998 and 3", () -> all.wager(0, 'r', 0, 3));
        Expect.same("4998 and 2", all.wager(0, 'r', 0, 2), 2);
        ShoeHouse again = Scene.withGuests(1, 9000);
        for (int i = 0; i < 9; i++) {
            again.wager(0, 'r', 0, 500);
        }
        again.spin(1);
        again.wager(0, 'r', 0, 400);
        again.pull(0, 98);
        Expect.same("up to 5000", again.ticket(0, 123), 1);
        Expect.unsupported(again, "nothing more", () -> again.wager(0, 'r', 0, 1));
        again.tilt();
        again.recover();
        Expect.unsupported(again, "also what is recovered", () -> again.pull(0, 1));
        again.bar(0, 1);
        Expect.same("also what a bar brings back", again.staked(0), 5000);
        for (int day = 1; day <= 2; day++) {
            ShoeHouse later = Scene.later(Scene.withGuests(1, 9000), day);
            for (int i = 0; i < 10; i++) {
                later.wager(0, 'r', 0, 500);
            }
            later.spin(0);
            Expect.same("5000 of a later day", later.staked(0), 5000);
            Expect.unsupported(later, "no more on a later day", () -> later.wager(0, 'r', 0, 1));
        }
        ShoeHouse half = Scene.withGuests(1, 100);
        half.rule('u', true);
        half.limit(0, 20);
        half.bet(0, 0, 20);
        Scene.lay(half, 1, Cards.BUSTS);
        half.deal();
        half.surrender(0);
        Expect.unsupported(half, "also what is surrendered", () -> half.wager(0, 'r', 0, 1));
    }

    private static void limitsOfDays() {
        Doc.term("a lower limit holds at once, and one that waits is gone, a higher one from the next day on.");
        ShoeHouse house = TWO.get();
        house.limit(0, 30);
        Expect.unsupported(house, "at once", () -> house.wager(0, 'r', 0, 31));
        house.limit(0, 31);
        Expect.unsupported(house, "a higher one, today", () -> house.wager(0, 'r', 0, 31));
        Expect.same("up to the lower one", house.wager(0, 'r', 0, 30), 1);
        house.pass(1);
        Expect.unsupported(house, "the next day", () -> house.wager(0, 'r', 0, 32));
        Expect.same("the next day", house.wager(0, 'r', 0, 31), 2);
        house.limit(0, 40);
        house.limit(0, 29);
        house.pass(1);
        Expect.unsupported(house, "the one that waited is gone", () -> house.wager(0, 'r', 0, 30));
        Expect.same("the lower one stays", house.wager(0, 'r', 0, 29), 3);
        house.limit(0, 60);
        house.limit(0, 50);
        house.pass(30);
        Expect.unsupported(house, "the last one told", () -> house.wager(0, 'r', 0, 51));
        Expect.same("the last one told", house.wager(0, 'r', 0, 50), 4);
        Expect.same("and it stays", Scene.later(house, 3).wager(0, 'r', 0, 50), 5);
        ShoeHouse below = Scene.after(TWO, h -> h.bet(0, 0, 50));
        below.limit(0, 20);
        Expect.unsupported(below, "what was staked is above it", () -> below.wager(0, 'r', 0, 1));
        Scene.lay(below, 1, Cards.BUSTS);
        Expect.same("but stays", below.deal(), 6);
    }

    private static void barredGuests() {
        Doc.term("A guest who is barred until a day may not stake ahead of that day.");
        for (int until = 1; until <= 3; until++) {
            ShoeHouse house = TWO.get();
            house.bar(0, until);
            for (int day = 0; day < until; day++) {
                Expect.unsupported(house, "bet", () -> house.bet(0, 0, 2));
                Expect.unsupported(house, "wager", () -> house.wager(0, 'r', 0, 1));
                Expect.unsupported(house, "pull", () -> house.pull(0, 1));
                Expect.unsupported(house, "ticket", () -> house.ticket(0, 123));
                house.pass(1);
            }
            Expect.same("bet that day", house.bet(0, 0, 2), 998);
            Expect.same("wager that day", house.wager(0, 'r', 0, 1), 1);
            Expect.same("pull that day", house.pull(0, 1), 996);
            Expect.same("ticket that day", house.ticket(0, 123), 1);
        }
    }

    private static void stakesComeBack() {
        Doc.term("As a guest is barred, what of this guest lies on a table and is not settled comes back, and nothing else comes of it:");
        ShoeHouse house = staking(TWO.get());
        Expect.same("all stakes", house.bar(0, 1), 35);
        Expect.same("chips", house.chips(0), 1000);
        Expect.same("nothing of a spin", house.spin(1), 0);
        Expect.state(house, "no spin", () -> house.stop(0));
        Expect.state(house, "no round", house::turn);
        Expect.same("nothing moved", house.vault(), 98000);
        Expect.same("nothing moved", house.pot() + house.tray(0) + house.tray(1) + house.tray(2), 0);
        ShoeHouse settled = staking(TWO.get());
        settled.hit(0);
        settled.spin(2);
        settled.stop(0);
        Expect.same("what was settled does not", settled.bar(0, 1), 0);
        Expect.same("chips", settled.chips(0), 965);
        settledHandsStay();
        ShoeHouse other = staking(TWO.get());
        Expect.same("nothing of another guest", other.bar(1, 1), 0);
        other.stand(0);
        Expect.same("the bet won", other.chips(0), 965 + 40);
        Expect.same("the wager won", other.spin(1), 10);
        Expect.same("the spin ends", other.stop(0), 0);
        ShoeHouse natural = Scene.dealtToTwo("i i");
        natural.bar(0, 1);
        natural.stand(2);
        Expect.same("no pay for a natural", natural.chips(0), 1000);
        Expect.same("no part is broken", natural.broken(), 0);
        ShoeHouse twice = Scene.staked(20, Cards.EIGHTS);
        twice.rule('d', true);
        twice.deal();
        twice.split(0);
        twice.twice(0);
        Expect.same("a doubled hand that stands, and the one that plays", twice.bar(0, 1), 60);
        Expect.same("chips", twice.chips(0), 1000);
    }

    /** What was settled, in this round or the last one, is not taken away. */
    private static void settledHandsStay() {
        ShoeHouse lost = Scene.dealtToTwo("i 48 i i");
        lost.hit(0);
        String cards = Snapshot.cards(lost, 0, 0);
        Expect.same("a lost hand", lost.bar(0, 1), 0);
        Expect.same("it stays", Snapshot.cards(lost, 0, 0), cards);
        Expect.unsupported(lost, "its seat is taken", () -> lost.bet(0, 1, 5));
        ShoeHouse last = Scene.dealt(20, Cards.EIGHTS);
        last.split(0);
        Scene.standAll(last);
        Expect.same("hands of the last round", last.bar(0, 1), 0);
        Expect.same("they stay", Snapshot.cards(last, 0, 0) + Snapshot.cards(last, 0, 1), "8 3 8 9 ");
        last.pass(1);
        last.bet(0, 0, 30);
        Expect.same("a stake ahead of the next one", last.bar(0, 2), 30);
        Expect.same("they stay", Snapshot.cards(last, 0, 0) + Snapshot.cards(last, 0, 1), "8 3 8 9 ");
    }

    private static void handsTakenAway() {
        Doc.term("hands are taken away, the cards being seen as they were, stakes of seats ahead of a deal, wagers, a spin that goes "
            + "on or was tilted;");
        ShoeHouse hands = Scene.dealtToTwo("20 i i i");
        hands.weigh(10, 1);
        int[] left = new int[11];
        for (int rank = 1; rank <= 10; rank++) {
            left[rank] = hands.left(rank);
        }
        int count = hands.count();
        Expect.same("the hand", hands.bar(1, 1), 20);
        Expect.index(hands, "no hand", () -> hands.cardAt(2, 0, 0));
        for (int rank = 1; rank <= 10; rank++) {
            Expect.same("left", hands.left(rank), left[rank]);
        }
        Expect.same("count", hands.count(), count);
        Expect.same("the other's hand stays", hands.cardAt(0, 0, 0) > 0, true);
        ShoeHouse ahead = TWO.get();
        ahead.bet(0, 0, 20);
        ahead.bet(1, 1, 30);
        ahead.bet(2, 0, 40);
        Expect.same("stakes ahead of a deal", ahead.bar(0, 1), 60);
        Expect.same("the seat is free", ahead.bet(0, 1, 2), 968);
        Expect.unsupported(ahead, "the other's is not", () -> ahead.bet(1, 1, 2));
        ahead.lay(1);
        ahead.deal();
        Expect.index(ahead, "no hand at seat 2", () -> ahead.cardAt(2, 0, 0));
        ShoeHouse wagers = TWO.get();
        for (int i = 0; i < 10; i++) {
            wagers.wager(i % 2, 'n', i, 10);
        }
        Expect.same("wagers", wagers.bar(1, 1), 50);
        for (int i = 0; i < 5; i++) {
            Expect.same("there is place again", wagers.wager(0, 'n', 8, 1), 6 + i);
        }
        Expect.same("those of the other stay", wagers.spin(8), 360 + 5 * 36);
        ShoeHouse spin = Scene.after(TWO, h -> h.pull(0, 10));
        Expect.same("a spin", spin.bar(0, 1), 10);
        Expect.same("the machine is free", spin.pull(1, 10), 990);
        ShoeHouse tilted = Scene.after(TWO, h -> h.pull(0, 10));
        tilted.tilt();
        Expect.same("a tilted one", tilted.bar(0, 1), 10);
        Expect.state(tilted, "not twice", tilted::recover);
        Expect.same("the machine is free", tilted.pull(1, 10), 990);
        ShoeHouse others = Scene.after(TWO, h -> h.pull(0, 10));
        Expect.same("another guest's spin", others.bar(1, 1), 0);
        Expect.same("it goes on", others.tilt(), 10);
    }

    private static void tickets() {
        Doc.term("tickets that were sold and not drawn and confirmed win nothing and are not among those with right numbers, but are "
            + "counted among the twelve, their price stays, and prizes that are not claimed go into the pool.");
        ShoeHouse house = TWO.get();
        for (int i = 0; i < 11; i++) {
            house.ticket(i % 2, 123);
        }
        Expect.same("nothing comes back", house.bar(0, 1), 0);
        Expect.same("the price stays", house.pool(), 22);
        Expect.same("not among the right ones", house.draw(123), 5);
        Expect.same("13 by 5", house.confirm(), 10);
        Expect.none(house, "nothing won", () -> house.claim(0));
        Expect.same("all to the other", house.claim(1), 10);
        ShoeHouse twelve = TWO.get();
        for (int i = 0; i < 11; i++) {
            twelve.ticket(0, 123);
        }
        twelve.bar(0, 1);
        Expect.same("counted among the twelve", twelve.ticket(1, 123), 12);
        Expect.state(twelve, "12 were sold", () -> twelve.ticket(1, 123));
        twelve.pass(1);
        Expect.same("not when the bar is over", twelve.draw(123), 1);
        twelve.confirm();
        Expect.same("the next draw", twelve.ticket(0, 456), 1);
        Expect.same("sold behind the bar", twelve.draw(456), 1);
        ShoeHouse drawn = TWO.get();
        drawn.ticket(0, 123);
        drawn.ticket(1, 123);
        Expect.same("drawn", drawn.draw(123), 2);
        drawn.bar(0, 1);
        Expect.same("but not confirmed", drawn.draw(132), 1);
        Expect.same("6 tenths of 4, of two right numbers none", drawn.confirm(), 2);
        Expect.none(drawn, "nothing won", () -> drawn.claim(0));
        Expect.same("pool", drawn.pool(), 2);
        Expect.same("the other's prize stays", drawn.claim(1), 2);
        ShoeHouse prizes = TWO.get();
        for (int day = 0; day < 3; day++) {
            for (int i = 0; i < 4; i++) {
                prizes.ticket(i % 2, 123);
            }
            prizes.draw(123);
            prizes.confirm();
            prizes.pass(1);
        }
        int pool = prizes.pool();
        Expect.same("prizes of three days, 4 by 4, 7 by 4, 9 by 4", 24 - pool, 4 + 4 + 8);
        prizes.bar(0, 5);
        Expect.same("prizes go into the pool", prizes.pool(), pool + 8);
        Expect.none(prizes, "none is left", () -> prizes.claim(0));
        Expect.same("those of the other stay", prizes.claim(1), 8);
        Expect.same("sound", prizes.isSound(), true);
    }

    private static void reported() {
        Doc.term("Money that a guest brings for chips in a day, 1000 or more in all, is reported, once a day.");
        int[][] buys = {{999}, {1000}, {1001}, {9000}, {1, 998}, {1, 999}, {999, 1}, {500, 500, 500}, {1000, 1000}, {999, 2000}};
        int[] due = {0, 1, 1, 1, 0, 1, 1, 1, 1, 1};
        for (int i = 0; i < buys.length; i++) {
            ShoeHouse house = new ShoeHouse();
            house.guest(20000);
            for (int day = 1; day <= 2; day++) {
                for (int coins : buys[i]) {
                    house.buyIn(0, coins);
                }
                Expect.same("buys " + i + " of day " + day, house.reports(0), day * due[i]);
                house.pass(1);
            }
        }
        ShoeHouse out = Scene.withGuests(2, 600);
        out.cashOut(0, 600);
        out.buyIn(0, 399);
        Expect.same("999 were brought", out.reports(0), 0);
        out.cashOut(0, 399);
        out.buyIn(0, 1);
        Expect.same("1000 were brought", out.reports(0), 1);
        out.buyIn(1, 399);
        Expect.same("each guest alone", out.reports(1), 0);
    }

    private static void shifts() {
        Doc.term("The win of a table in a shift is what its tray has now, less what it had as the shift began, less fills and more "
            + "credits.");
        ShoeHouse house = TWO.get();
        for (int table = 0; table < 3; table++) {
            house.fill(table, 100);
        }
        house.shift();
        for (int table = 0; table < 3; table++) {
            Expect.same("what it had", house.win(table), 0);
            house.fill(table, 50 + table);
            Expect.same("less fills", house.win(table), 0);
            house.credit(table, 20 + table);
            Expect.same("more credits", house.win(table), 0);
        }
        house.wager(0, 'r', 0, 30);
        house.spin(0);
        Expect.same("what it has more", house.win(1), 30);
        house.wager(0, 'n', 5, 2);
        house.spin(5);
        Expect.same("what it has less", house.win(1), -40);
        house.credit(1, 60);
        Expect.same("not less by that", house.win(1), -40);
        Expect.same("the shift", house.shift(), -40);
        Expect.same("the next one", house.win(1), 0);
        Doc.term("What the vault paid for a tray counts as a fill.");
        ShoeHouse empty = TWO.get();
        empty.wager(0, 'n', 5, 10);
        empty.spin(5);
        Expect.same("the vault paid all", empty.win(1), -350);
        Expect.same("nothing in the tray", empty.tray(1), 0);
        empty.fill(1, 30);
        empty.wager(0, 'n', 5, 1);
        empty.spin(5);
        Expect.same("the vault paid a part", empty.win(1), -385);
        empty.wager(0, 'r', 0, 100);
        empty.spin(2);
        Expect.same("win", empty.win(1), -285);
        Expect.same("tray", empty.tray(1), 100);
        ShoeHouse cards = Scene.dealt(20, Cards.SEAT_NATURAL);
        Expect.same("cards", cards.win(0), -30);
        ShoeHouse machine = TWO.get();
        machine.pays(4, 2);
        machine.pull(0, 20);
        machine.stop(0);
        Expect.same("machine", machine.win(2), -22);
        Expect.same("of all", machine.shift(), -22);
    }

    /** Something lies everywhere: a round, wagers, a spin, tickets, a draw, a prize, a limit that waits, a bar. */
    private static ShoeHouse busy() {
        ShoeHouse house = Scene.withGuests(3, 1000);
        house.ticket(0, 123);
        house.draw(321);
        house.confirm();
        house.ticket(0, 456);
        house.ticket(1, 457);
        house.draw(789);
        house.limit(0, 900);
        house.limit(0, 1900);
        house.bar(2, 5);
        house.wager(0, 'd', 1, 5);
        house.wager(1, 'n', 20, 6);
        house.pull(1, 30);
        house.bet(0, 0, 20);
        house.bet(1, 1, 30);
        house.weigh(10, -1);
        Scene.lay(house, 1, Cards.BUSTS);
        house.deal();
        return house;
    }

    private static void refusedCalls(ShoeHouse house) {
        Expect.argument(house, "guest", () -> house.guest(-1));
        Expect.unsupported(house, "buyIn", () -> house.buyIn(0, 9999));
        Expect.unsupported(house, "cashOut", () -> house.cashOut(0, 9999));
        Expect.argument(house, "limit", () -> house.limit(0, 5001));
        Expect.argument(house, "bar", () -> house.bar(2, 4));
        Expect.state(house, "pass", () -> house.pass(1));
        Expect.argument(house, "fill", () -> house.fill(0, 10000));
        Expect.unsupported(house, "credit", () -> house.credit(0, 1));
        Expect.state(house, "rule", () -> house.rule('n', true));
        Expect.state(house, "lay", () -> house.lay(2));
        Expect.state(house, "cut", () -> house.cut(5));
        Expect.state(house, "riffle", () -> house.riffle(true));
        Expect.state(house, "bet", () -> house.bet(2, 0, 5));
        Expect.state(house, "deal", house::deal);
        Expect.unsupported(house, "hit", () -> house.hit(1));
        Expect.unsupported(house, "stand", () -> house.stand(1));
        Expect.unsupported(house, "twice", () -> house.twice(1));
        Expect.unsupported(house, "split", () -> house.split(1));
        Expect.unsupported(house, "surrender", () -> house.surrender(0));
        Expect.argument(house, "weigh", () -> house.weigh(10, 4));
        Expect.argument(house, "wager", () -> house.wager(0, 'n', 37, 5));
        Expect.argument(house, "spin", () -> house.spin(37));
        Expect.state(house, "stops", () -> house.stops(0, 0));
        Expect.state(house, "pays", () -> house.pays(4, 1));
        Expect.state(house, "bound", () -> house.bound(1));
        Expect.state(house, "pull", () -> house.pull(0, 5));
        Expect.argument(house, "stop", () -> house.stop(8));
        Expect.state(house, "recover", house::recover);
        Expect.state(house, "ticket", () -> house.ticket(0, 123));
        Expect.argument(house, "draw", () -> house.draw(112));
        Expect.none(house, "claim", () -> house.claim(1));
    }

    private static void refusals() {
        Doc.term("A method that throws an exception changes nothing.");
        for (int way = 0; way < Probe.WAYS; way++) {
            ShoeHouse house = busy();
            refusedCalls(house);
            Expect.same("all as it was", Refusal.difference(Probe.of(house, way), Probe.of(busy(), way)), "");
        }
        refusedBetsAreNotWatched();
        Doc.term("If several exceptions apply, the one that is documented first is thrown.");
        ShoeHouse full = Scene.after(ChipTerms::busy, h -> h.guest(0));
        for (int i = 0; i < 8; i++) {
            full.wager(0, 'r', 0, 1);
        }
        Expect.index(full, "no seat, 0 chips, a round", () -> full.bet(3, 2, 0));
        Expect.argument(full, "0 chips, the seat has a stake, barred, a round", () -> full.bet(0, 2, 0));
        Expect.unsupported(full, "the seat has a stake, barred, a round", () -> full.bet(0, 2, 5));
        Expect.unsupported(full, "no chips, a round", () -> full.bet(2, 3, 5));
        Expect.state(full, "a round alone", () -> full.bet(2, 0, 5));
        Expect.index(full, "no guest, no kind, 10 wagers", () -> full.wager(4, 'x', 0, 0));
        Expect.argument(full, "no kind, barred, 10 wagers", () -> full.wager(2, 'x', 0, 5));
        Expect.unsupported(full, "barred, 10 wagers", () -> full.wager(2, 'r', 0, 5));
        Expect.state(full, "10 wagers alone", () -> full.wager(0, 'r', 0, 5));
        Expect.index(full, "no guest, 0 chips, a spin", () -> full.pull(4, 0));
        Expect.argument(full, "0 chips, barred, a spin", () -> full.pull(2, 0));
        Expect.unsupported(full, "barred, a spin", () -> full.pull(2, 5));
        Expect.state(full, "a spin alone", () -> full.pull(0, 5));
        Expect.index(full, "no guest, 112, a draw", () -> full.ticket(4, 112));
        Expect.argument(full, "112, barred, a draw", () -> full.ticket(2, 112));
        Expect.unsupported(full, "barred, a draw", () -> full.ticket(2, 123));
        Expect.state(full, "a draw alone", () -> full.ticket(0, 123));
        Expect.index(full, "no reel, a digit 5, a spin", () -> full.stops(3, 5));
        Expect.argument(full, "a digit 5, a spin", () -> full.stops(2, 5));
        Expect.state(full, "a spin alone", () -> full.stops(2, 0));
        Expect.index(full, "no seat, no round", () -> new ShoeHouse().hit(3));
        Expect.state(full, "no round, no card", () -> new ShoeHouse().hit(0));
    }

    /** Three low bets and two high ones; those that are refused, at a high count, do not make the third one. */
    private static void refusedBetsAreNotWatched() {
        ShoeHouse house = ShoeTest.watched();
        for (int i = 0; i < 3; i++) {
            ShoeTest.betAtSeat(house, 0, 2);
        }
        ShoeTest.tellHigh(house);
        ShoeTest.betAtSeat(house, 0, 300);
        ShoeTest.betAtSeat(house, 0, 300);
        house.limit(0, 700);
        Expect.index(house, "no seat", () -> house.bet(3, 0, 90));
        Expect.argument(house, "1001", () -> house.bet(0, 0, 1001));
        Expect.unsupported(house, "above the limit", () -> house.bet(0, 0, 500));
        house.bet(1, 1, 5);
        Expect.unsupported(house, "the seat has a stake", () -> house.bet(1, 0, 90));
        Scene.lay(house, 1, "30");
        house.deal();
        Expect.same("true count", house.trueCount(), 2);
        Expect.state(house, "a round", () -> house.bet(0, 0, 90));
        house.stand(1);
        Expect.same("two high bets alone", house.isSuspected(0), false);
        ShoeTest.betAtSeat(house, 0, 90);
        Expect.same("the third one", house.isSuspected(0), true);
    }
}
