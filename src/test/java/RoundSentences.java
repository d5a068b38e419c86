import java.util.function.Supplier;

/** The sentences of the promises 16 to 25: bets, deals, how hands play, the cards, the turn. */
final class RoundSentences {
    private static final String NO_RANGE = "Throws `IllegalArgumentException` if a number is out of range";
    private static final String NO_SEAT = "Throws `IndexOutOfBoundsException` if there is no such seat";
    private static final String NO_ROUND = "Throws `IllegalStateException` if no round goes on";
    private static final String SEAT = "- `seat`: the seat, 0 to 2";
    private static final String VALUE = "Returns the value of the hand then.";
    private static final Supplier<ShoeHouse> THREE = () -> Scene.withGuests(3, 1000);
    private static final Supplier<ShoeHouse> ROUND = () -> Scene.dealt(20, Cards.BUSTS);
    private static final Supplier<ShoeHouse> PAIR = () -> Scene.dealt(20, Cards.EIGHTS);
    private static final Supplier<ShoeHouse> TWO_SEATS = () -> Scene.dealtToTwo("20 i i i");

    private RoundSentences() {
    }

    static void run() {
        bet();
        betAtATakenSeat();
        betRefused();
        betInOrder();
        deal();
        dealRefused();
        hit();
        stand();
        twice();
        twiceRefused();
        split();
        splitRefused();
        surrender();
        surrenderRefused();
        cardAt();
        cardAtRefused();
        dealerAt();
        turn();
    }

    private static void bet() {
        Doc.says(16, "Stakes at a seat.");
        ShoeHouse house = THREE.get();
        house.bet(1, 2, 30);
        Expect.same("staked", house.staked(2), 30);
        Expect.same("chips", house.chips(2), 970);
        house.lay(1);
        house.deal();
        Expect.same("the seat plays", house.turn(), 1);
        Doc.says(16, SEAT);
        Refusal.indexes(THREE, 0, 2, (h, seat) -> h.bet(seat, 0, 2));
        Doc.says(16, "- `guest`: the guest");
        Refusal.indexes(THREE, 0, 2, (h, guest) -> h.bet(0, guest, 2));
        Refusal.indexes(() -> Scene.withGuests(8, 1000), 0, 7, (h, guest) -> h.bet(2, guest, 2));
        Doc.says(16, "- `chips`: 2 to 1000");
        Refusal.arguments(THREE, 2, 1000, (h, chips) -> h.bet(0, 0, chips));
        Doc.says(16, "Returns the chips left.");
        Expect.same("2", THREE.get().bet(0, 0, 2), 998);
        Expect.same("1000", THREE.get().bet(0, 0, 1000), 0);
        Expect.same("all the day's", Scene.withGuests(1, 5000).bet(2, 0, 1000), 4000);
        Doc.says(16, "Throws `IndexOutOfBoundsException` if there is no such seat or guest");
        Refusal.index("seat -1", THREE, h -> h.bet(-1, 0, 5));
        Refusal.index("seat 3", THREE, h -> h.bet(3, 0, 5));
        Refusal.index("guest -1", THREE, h -> h.bet(0, -1, 5));
        Refusal.index("guest 3", THREE, h -> h.bet(0, 3, 5));
        Refusal.index("no guests", ShoeHouse::new, h -> h.bet(0, 0, 5));
        Doc.says(16, NO_RANGE);
        Refusal.argument("1", THREE, h -> h.bet(0, 0, 1));
        Refusal.argument("1001", THREE, h -> h.bet(0, 0, 1001));
        Refusal.argument("-2", THREE, h -> h.bet(0, 0, -2));
    }

    private static final String BET_REFUSED = "Throws `UnsupportedOperationException` if the seat has a stake, till the round is "
        + "over also a settled one, the guest is barred, has not so many chips, or would stake more than the limit today";

    /** Seats 0 and 2 have stakes, the round goes on at seat 2, as seat 0 acted. */
    private static ShoeHouse actedAtFirst(String act) {
        ShoeHouse house = Scene.withGuests(2, 1000);
        house.rule('u', true);
        house.bet(0, 0, 20);
        house.bet(2, 0, 20);
        Scene.lay(house, 1, "i 48 i i");
        house.deal();
        Scene.act(house, act);
        Expect.same("the round goes on", house.turn(), 2);
        return house;
    }

    private static void betAtATakenSeat() {
        Doc.says(16, BET_REFUSED);
        Supplier<ShoeHouse> ahead = () -> Scene.after(THREE, h -> h.bet(1, 0, 5));
        Refusal.unsupported("the seat has a stake", ahead, h -> h.bet(1, 1, 2));
        Refusal.unsupported("the same guest's", ahead, h -> h.bet(1, 0, 2));
        Refusal.taken("another seat", ahead, h -> h.bet(0, 0, 2));
        Refusal.unsupported("the hand plays", TWO_SEATS, h -> h.bet(0, 1, 2));
        Refusal.unsupported("the hand waits", TWO_SEATS, h -> h.bet(2, 0, 2));
        Refusal.unsupported("the hand stood", () -> actedAtFirst("s"), h -> h.bet(0, 1, 2));
        Refusal.unsupported("a lost one", () -> actedAtFirst("h"), h -> h.bet(0, 1, 2));
        Refusal.unsupported("a surrendered one", () -> actedAtFirst("u"), h -> h.bet(0, 1, 2));
        Refusal.unsupported("a natural", () -> Scene.dealtToTwo("i i"), h -> h.bet(0, 1, 2));
        for (String act : new String[] {"ss", "hs", "us"}) {
            ShoeHouse over = Scene.withGuests(2, 1000);
            over.rule('u', true);
            over.bet(0, 0, 20);
            over.bet(2, 0, 20);
            Scene.lay(over, 1, "i 48 i i");
            over.deal();
            Scene.act(over, act);
            Expect.same("the round is over", over.bet(0, 1, 20), 980);
            Expect.same("the round is over", over.bet(2, 1, 20), 960);
        }
    }

    private static ShoeHouse limited(int limit) {
        return Scene.after(THREE, h -> h.limit(0, limit));
    }

    private static void betRefused() {
        Doc.says(16, BET_REFUSED);
        Supplier<ShoeHouse> barred = () -> Scene.after(THREE, h -> h.bar(0, 2));
        Refusal.unsupported("barred", barred, h -> h.bet(0, 0, 2));
        Refusal.unsupported("the day before", () -> Scene.later(barred.get(), 1), h -> h.bet(0, 0, 2));
        Refusal.taken("that day", () -> Scene.later(barred.get(), 2), h -> h.bet(0, 0, 2));
        Refusal.taken("another guest", barred, h -> h.bet(0, 1, 2));
        Supplier<ShoeHouse> fifty = () -> Scene.withGuests(1, 50);
        Refusal.taken("all chips", fifty, h -> h.bet(0, 0, 50));
        Refusal.unsupported("a chip more", fifty, h -> h.bet(0, 0, 51));
        Refusal.unsupported("no chips", () -> Scene.withGuests(1, 0), h -> h.bet(0, 0, 2));
        Refusal.taken("up to the limit", () -> limited(50), h -> h.bet(0, 0, 50));
        Refusal.unsupported("above the limit", () -> limited(50), h -> h.bet(0, 0, 51));
        Refusal.unsupported("no limit at all", () -> limited(0), h -> h.bet(0, 0, 2));
        Supplier<ShoeHouse> staked = () -> Scene.after(() -> limited(50), h -> h.wager(0, 'r', 0, 20));
        Refusal.taken("up to the limit with the wager", staked, h -> h.bet(0, 0, 30));
        Refusal.unsupported("above the limit with the wager", staked, h -> h.bet(0, 0, 31));
        Doc.says(16, "Throws `IllegalStateException` if a round goes on");
        Refusal.state("a free seat", TWO_SEATS, h -> h.bet(1, 0, 5));
        Refusal.state("a guest of no seat", () -> Scene.after(ROUND, h -> h.guest(9)), h -> h.bet(1, 0, 5));
        Refusal.state("a stake that came back", () -> Scene.after(TWO_SEATS, h -> h.bar(0, 1)), h -> h.bet(0, 1, 5));
        Refusal.taken("no round", () -> Scene.after(ROUND, h -> h.stand(0)), h -> h.bet(1, 0, 5));
    }

    private static void betInOrder() {
        Supplier<ShoeHouse> ahead = () -> Scene.after(THREE, h -> h.bet(1, 0, 5));
        Doc.order(16, Doc.INDEX, Doc.ARGUMENT);
        Refusal.index("no seat, 1 chip", THREE, h -> h.bet(3, 0, 1));
        Refusal.index("no guest, 1001 chips", THREE, h -> h.bet(0, 3, 1001));
        Doc.order(16, Doc.INDEX, Doc.UNSUPPORTED);
        Refusal.index("no guest, the seat has a stake", ahead, h -> h.bet(1, 3, 5));
        Refusal.index("no seat, barred", () -> Scene.after(THREE, h -> h.bar(0, 1)), h -> h.bet(3, 0, 5));
        Doc.order(16, Doc.INDEX, Doc.STATE);
        Refusal.index("a round, no seat", TWO_SEATS, h -> h.bet(-1, 0, 5));
        Refusal.index("a round, no guest", TWO_SEATS, h -> h.bet(1, 2, 5));
        Doc.order(16, Doc.ARGUMENT, Doc.UNSUPPORTED);
        Refusal.argument("the seat has a stake, 1 chip", ahead, h -> h.bet(1, 1, 1));
        Refusal.argument("1001 of 1000 chips", THREE, h -> h.bet(1, 1, 1001));
        Doc.order(16, Doc.ARGUMENT, Doc.STATE);
        Refusal.argument("a round, 1 chip", TWO_SEATS, h -> h.bet(1, 0, 1));
        Refusal.argument("a round, 1001 chips", TWO_SEATS, h -> h.bet(1, 0, 1001));
        Doc.order(16, Doc.UNSUPPORTED, Doc.STATE);
        Refusal.unsupported("a round, a taken seat", TWO_SEATS, h -> h.bet(2, 0, 5));
        Refusal.unsupported("a round, too few chips", TWO_SEATS, h -> h.bet(1, 0, 981));
        Refusal.unsupported("a round, barred", () -> Scene.after(TWO_SEATS, h -> h.bar(0, 1)), h -> h.bet(1, 0, 5));
        Refusal.unsupported("a round, above the limit", () -> Scene.after(TWO_SEATS, h -> h.limit(1, 24)), h -> h.bet(1, 1, 5));
    }

    private static void deal() {
        Doc.says(17, "Deals.");
        ShoeHouse house = ROUND.get();
        Expect.same("the hand", Snapshot.cards(house, 0, 0), "10 8 ");
        Expect.same("the dealer", Snapshot.dealer(house), "6 ");
        Expect.same("the turn", house.turn(), 0);
        Doc.says(17, "Returns the rank of the card that is seen of the dealer.");
        Expect.same("6", Scene.staked(20, Cards.BUSTS).deal(), 6);
        Expect.same("10", Scene.staked(20, Cards.HIT_TO_21).deal(), 10);
        Expect.same("also of a natural", Scene.staked(20, Cards.ACE_AND_TEN).deal(), 1);
        Expect.same("also against a natural", Scene.staked(20, Cards.SEAT_NATURAL).deal(), 9);
    }

    /** A deck of which so many cards are left, 29 or 30. */
    private static ShoeHouse withDeck(int cards) {
        ShoeHouse house = Scene.withGuests(1, 1000);
        house.lay(1);
        house.cut(cards == 30 ? 6 : 44);
        Scene.standRounds(house, cards == 30 ? "131" : "223");
        Expect.same("cards", Scene.cardsLeft(house), cards);
        return house;
    }

    private static void dealRefused() {
        Doc.says(17, "Throws `UnsupportedOperationException` if no seat has a stake, also in a round, or there are fewer than 30 cards");
        Refusal.unsupported("no stake", () -> Scene.after(THREE, h -> h.lay(1)), ShoeHouse::deal);
        Refusal.unsupported("the stake was settled", () -> Scene.after(ROUND, h -> h.stand(0)), ShoeHouse::deal);
        Refusal.unsupported("the stake came back", () -> Scene.after(() -> Scene.staked(9, Cards.ACES), h -> h.bar(0, 1)), ShoeHouse::deal);
        Refusal.unsupported("no shoe", () -> Scene.after(THREE, h -> h.bet(0, 0, 5)), ShoeHouse::deal);
        for (int seats = 1; seats <= 3; seats++) {
            int asked = seats;
            Refusal.taken("30 cards", () -> Scene.after(() -> withDeck(30), h -> Scene.betAt(h, asked)), ShoeHouse::deal);
            Refusal.unsupported("29 cards", () -> Scene.after(() -> withDeck(29), h -> Scene.betAt(h, asked)), ShoeHouse::deal);
        }
        Refusal.unsupported("30 cards, no stake", () -> withDeck(30), ShoeHouse::deal);
        Refusal.unsupported("no card", () -> Scene.after(() -> Scene.withCards(0), h -> h.bet(0, 0, 5)), ShoeHouse::deal);
        Doc.says(17, "Throws `IllegalStateException` if a round goes on");
        Refusal.state("a round", ROUND, ShoeHouse::deal);
        Refusal.state("a round, one hand lost", () -> actedAtFirst("h"), ShoeHouse::deal);
        Doc.order(17, Doc.UNSUPPORTED, Doc.STATE);
        ShoeHouse few = withDeck(30);
        few.bet(0, 0, 2);
        few.deal();
        Expect.same("26 cards in a round", Scene.isOn(few), true);
        Expect.unsupported(few, "26 cards in a round", few::deal);
        Refusal.unsupported("no card in a round", Scene::withoutCards, ShoeHouse::deal);
    }

    private static ShoeHouse pairAt(int seat) {
        ShoeHouse house = Scene.withGuests(1, 1000);
        house.rule('u', true);
        house.bet(seat, 0, 20);
        Scene.lay(house, 1, Cards.EIGHTS);
        house.deal();
        return house;
    }

    /** What holds for all calls of the hand that plays: the seat, the round, the turn. */
    private static void actAtSeats(int promise, String whenNot, Refusal.Numbered act) {
        Doc.says(promise, SEAT);
        for (int seat = 0; seat <= 2; seat++) {
            int asked = seat;
            Refusal.taken("seat " + seat, () -> pairAt(asked), h -> act.on(h, asked));
        }
        Doc.says(promise, NO_SEAT);
        for (int seat : new int[] {-1, 3, Integer.MIN_VALUE, Integer.MAX_VALUE}) {
            Refusal.index("seat " + seat, PAIR, h -> act.on(h, seat));
        }
        Doc.says(promise, NO_ROUND);
        Refusal.state("a new house", ShoeHouse::new, h -> act.on(h, 0));
        Refusal.state("a stake", () -> Scene.staked(20, Cards.EIGHTS), h -> act.on(h, 0));
        Refusal.state("the round is over", () -> Scene.after(PAIR, h -> h.stand(0)), h -> act.on(h, 0));
        Refusal.state("over at once", () -> Scene.dealt(20, Cards.SEAT_NATURAL), h -> act.on(h, 0));
        Refusal.state("over by a bar", () -> Scene.after(PAIR, h -> h.bar(0, 1)), h -> act.on(h, 0));
        Doc.says(promise, whenNot);
        Refusal.unsupported("no stake at the seat", PAIR, h -> act.on(h, 1));
        Refusal.unsupported("another seat's turn", TWO_SEATS, h -> act.on(h, 2));
        Refusal.unsupported("the hand stood", () -> actedAtFirst("s"), h -> act.on(h, 0));
        Refusal.unsupported("the hand is lost", () -> actedAtFirst("h"), h -> act.on(h, 0));
        Refusal.unsupported("a natural", () -> Scene.dealtToTwo("i i"), h -> act.on(h, 0));
        Refusal.unsupported("taken away", () -> Scene.after(TWO_SEATS, h -> h.bar(0, 1)), h -> act.on(h, 0));
        Doc.order(promise, Doc.INDEX, Doc.STATE);
        Refusal.index("no round, seat 3", ShoeHouse::new, h -> act.on(h, 3));
        Refusal.index("no round, seat -1", ShoeHouse::new, h -> act.on(h, -1));
        Doc.order(promise, Doc.INDEX, Doc.UNSUPPORTED);
        Refusal.index("seat 3", Scene::withoutCards, h -> act.on(h, 3));
        Refusal.index("seat -1", TWO_SEATS, h -> act.on(h, -1));
        Doc.order(promise, Doc.STATE, Doc.UNSUPPORTED);
        Refusal.state("no round, no card", () -> Scene.withCards(0), h -> act.on(h, 2));
        Refusal.state("no round, no shoe", THREE, h -> act.on(h, 1));
    }

    private static void hit() {
        Doc.says(18, "Takes a card for the hand that plays.");
        ShoeHouse house = Scene.dealt(20, Cards.ACES);
        house.hit(0);
        Expect.same("the card", Snapshot.cards(house, 0, 0), "1 1 10 ");
        Expect.same("it is seen", house.left(10), 15);
        Doc.says(18, VALUE);
        Expect.same("soft 12 and 10 is 12", Scene.dealt(20, Cards.ACES).hit(0), 12);
        Expect.same("21", Scene.dealt(20, Cards.HIT_TO_21).hit(0), 21);
        Expect.same("above 21", Scene.dealt(20, Cards.BUSTS).hit(0), 28);
        ShoeHouse soft = Scene.withGuests(1, 1000);
        soft.lay(2);
        soft.bet(0, 0, 20);
        soft.deal();
        int[] values = {13, 14, 15, 16, 18, 20, 12, 14, 16, 18, 20, 22};
        for (int value : values) {
            Expect.same("two aces, then four and eight 2", soft.hit(0), value);
        }
        Expect.same("over", Scene.isOn(soft), false);
        String unless = "Throws `UnsupportedOperationException` if it is not the turn of this seat, or the shoe has no card";
        actAtSeats(18, unless, ShoeHouse::hit);
        Doc.says(18, unless);
        Refusal.unsupported("no card", Scene::withoutCards, h -> h.hit(2));
        Refusal.unsupported("no card, two cards", Scene::withoutCardsAndTwo, h -> h.hit(2));
        Refusal.taken("the last card", Scene::withLastCard, h -> h.hit(2));
    }

    private static void stand() {
        Doc.says(19, "Lets the hand that plays stand.");
        ShoeHouse house = TWO_SEATS.get();
        String hand = Snapshot.cards(house, 0, 0);
        house.stand(0);
        Expect.same("the next one plays", house.turn(), 2);
        Expect.same("no card more", Snapshot.cards(house, 0, 0), hand);
        Doc.says(19, "Returns the seat that plays then, -1 if the round is over.");
        ShoeHouse three = THREE.get();
        Scene.betAt(three, 3);
        Scene.lay(three, 1, "3");
        three.deal();
        Expect.same("seat 1", three.stand(0), 1);
        Expect.same("seat 2", three.stand(1), 2);
        Expect.same("over", three.stand(2), -1);
        ShoeHouse pair = PAIR.get();
        pair.split(0);
        Expect.same("the second hand of the seat", pair.stand(0), 0);
        Expect.same("over", pair.stand(0), -1);
        Expect.same("a natural does not play", Scene.dealtToTwo("o o 11").stand(0), -1);
        Expect.same("without a card", Scene.withoutCards().stand(2), -1);
        actAtSeats(19, "Throws `UnsupportedOperationException` if it is not the turn of this seat", ShoeHouse::stand);
    }

    private static void twice() {
        Doc.says(20, "Doubles.");
        ShoeHouse house = Scene.dealt(20, Cards.DOUBLE_18);
        house.twice(0);
        Expect.same("staked", house.staked(0), 40);
        Expect.same("one card", Snapshot.cards(house, 0, 0), "9 2 7 ");
        Expect.same("both stakes won", house.chips(0), 1040);
        Doc.says(20, VALUE);
        Expect.same("18", Scene.dealt(20, Cards.DOUBLE_18).twice(0), 18);
        Expect.same("21", Scene.dealt(20, Cards.DOUBLE_21).twice(0), 21);
        Expect.same("28", Scene.dealt(20, Cards.BUSTS).twice(0), 28);
        Expect.same("soft 12 and 10", Scene.dealt(20, Cards.ACES).twice(0), 12);
        actAtSeats(20, TWICE_REFUSED, ShoeHouse::twice);
    }

    private static final String TWICE_REFUSED = "Throws `UnsupportedOperationException` if it is not the turn of this seat, the "
        + "hand has more than two cards, it is of a split without the rule, the shoe has no card, or the guest is barred, has "
        + "not so many chips, or would stake more than the limit today";

    /** A stake of 16 of so many chips, with so high a limit. */
    private static ShoeHouse sixteen(int chips, int limit, String recipe) {
        ShoeHouse house = Scene.withGuests(1, chips);
        house.limit(0, limit);
        house.bet(0, 0, 16);
        Scene.lay(house, 1, recipe);
        house.deal();
        return house;
    }

    private static ShoeHouse splitBy(boolean isRule, String acts) {
        ShoeHouse house = Scene.staked(20, Cards.EIGHTS);
        house.rule('d', isRule);
        house.deal();
        Scene.act(house, "p" + acts);
        return house;
    }

    private static void twiceRefused() {
        Doc.says(20, TWICE_REFUSED);
        Refusal.unsupported("three cards", () -> Scene.after(() -> Scene.dealt(20, Cards.ACES), h -> h.hit(0)), h -> h.twice(0));
        Refusal.unsupported("four cards", () -> Scene.after(() -> Scene.withGuests(1, 1000), h -> {
            h.lay(2);
            h.bet(0, 0, 20);
            h.deal();
            Scene.act(h, "hh");
        }), h -> h.twice(0));
        Refusal.unsupported("the first hand of a split", () -> splitBy(false, ""), h -> h.twice(0));
        Refusal.unsupported("the second hand of a split", () -> splitBy(false, "s"), h -> h.twice(0));
        Refusal.taken("by the rule", () -> splitBy(true, ""), h -> h.twice(0));
        Refusal.taken("by the rule, the second hand", () -> splitBy(true, "s"), h -> h.twice(0));
        Refusal.taken("by the rule, no split", () -> Scene.after(() -> Scene.staked(20, Cards.EIGHTS), h -> {
            h.rule('d', true);
            h.deal();
        }), h -> h.twice(0));
        Refusal.unsupported("no card", Scene::withoutCardsAndTwo, h -> h.twice(2));
        Refusal.taken("the last card", Scene::withLastCard, h -> h.twice(2));
        Refusal.unsupported("a barred guest's", () -> Scene.after(TWO_SEATS, h -> h.bar(0, 1)), h -> h.twice(0));
        Refusal.taken("just so many chips", () -> sixteen(32, 5000, Cards.DOUBLE_18), h -> h.twice(0));
        Refusal.unsupported("a chip less", () -> sixteen(31, 5000, Cards.DOUBLE_18), h -> h.twice(0));
        Refusal.unsupported("no chips", () -> sixteen(16, 5000, Cards.DOUBLE_18), h -> h.twice(0));
        Refusal.taken("just the limit", () -> sixteen(100, 32, Cards.DOUBLE_18), h -> h.twice(0));
        Refusal.unsupported("above the limit", () -> sixteen(100, 31, Cards.DOUBLE_18), h -> h.twice(0));
    }

    private static void split() {
        Doc.says(21, "Splits.");
        ShoeHouse house = PAIR.get();
        house.split(0);
        Expect.same("the first hand", Snapshot.cards(house, 0, 0), "8 3 ");
        Expect.same("the second hand", Snapshot.cards(house, 0, 1), "8 9 ");
        Expect.same("staked", house.staked(0), 40);
        Expect.same("the turn", house.turn(), 0);
        Doc.says(21, "Returns the value of the first hand then.");
        Expect.same("8 and 3", PAIR.get().split(0), 11);
        Expect.same("1 and 10", Scene.dealt(20, Cards.ACES).split(0), 21);
        Expect.same("1 and 10, the second has another", Scene.dealt(20, Cards.ACES_AND_FIVE).split(0), 21);
        actAtSeats(21, SPLIT_REFUSED, ShoeHouse::split);
    }

    private static final String SPLIT_REFUSED = "Throws `UnsupportedOperationException` if it is not the turn of this seat, it was "
        + "split, the hand has not two cards of one rank, the shoe has fewer than 2, or the guest is barred, has not so many "
        + "chips, or would stake more than the limit today";

    /** Tens at seat 0, which can be split. */
    private static ShoeHouse tens() {
        ShoeHouse house = Scene.withGuests(2, 1000);
        house.rule('u', true);
        house.lay(1);
        house.cut(36);
        house.bet(0, 0, 20);
        house.deal();
        return house;
    }

    private static void splitRefused() {
        Doc.says(21, SPLIT_REFUSED);
        Refusal.unsupported("it was split, two tens again", () -> Scene.after(RoundSentences::tens, h -> h.split(0)), h -> h.split(0));
        Refusal.unsupported("the second hand, two tens", () -> Scene.after(RoundSentences::tens, h -> {
            h.split(0);
            h.stand(0);
        }), h -> h.split(0));
        Refusal.unsupported("8 and 10", ROUND, h -> h.split(0));
        Refusal.unsupported("three cards", () -> Scene.after(() -> Scene.dealt(20, Cards.ACES), h -> h.hit(0)), h -> h.split(0));
        Refusal.unsupported("no card", Scene::withoutCardsAndPair, h -> h.split(2));
        Refusal.unsupported("one card", Scene::withLastCard, h -> h.split(2));
        Refusal.taken("two cards", Scene::withTwoCards, h -> h.split(2));
        Refusal.unsupported("a barred guest's", () -> Scene.after(TWO_SEATS, h -> h.bar(0, 1)), h -> h.split(0));
        Refusal.taken("just so many chips", () -> sixteen(32, 5000, Cards.EIGHTS), h -> h.split(0));
        Refusal.unsupported("a chip less", () -> sixteen(31, 5000, Cards.EIGHTS), h -> h.split(0));
        Refusal.unsupported("no chips", () -> sixteen(16, 5000, Cards.EIGHTS), h -> h.split(0));
        Refusal.taken("just the limit", () -> sixteen(100, 32, Cards.EIGHTS), h -> h.split(0));
        Refusal.unsupported("above the limit", () -> sixteen(100, 31, Cards.EIGHTS), h -> h.split(0));
    }

    private static ShoeHouse surrendering(int stake) {
        ShoeHouse house = Scene.staked(stake, Cards.BUSTS);
        house.rule('u', true);
        house.deal();
        return house;
    }

    private static void surrender() {
        Doc.says(22, "Surrenders.");
        ShoeHouse house = surrendering(20);
        house.surrender(0);
        Expect.same("chips", house.chips(0), 990);
        Expect.same("tray", house.tray(0), 10);
        Expect.same("over", Scene.isOn(house), false);
        Doc.says(22, "Returns the chips that come back.");
        for (int stake : new int[] {2, 3, 11, 20, 999, 1000}) {
            Expect.same("half of " + stake, surrendering(stake).surrender(0), stake / 2);
        }
        actAtSeats(22, SURRENDER_REFUSED, ShoeHouse::surrender);
    }

    private static final String SURRENDER_REFUSED = "Throws `UnsupportedOperationException` if it is not the turn of this seat, "
        + "the rule does not hold, it was split, or the hand has more than two cards";

    private static void surrenderRefused() {
        Doc.says(22, SURRENDER_REFUSED);
        Refusal.unsupported("no rule", ROUND, h -> h.surrender(0));
        Refusal.unsupported("the rule is gone", () -> Scene.after(() -> Scene.staked(20, Cards.BUSTS), h -> {
            h.rule('u', true);
            h.rule('u', false);
            h.deal();
        }), h -> h.surrender(0));
        Refusal.unsupported("other rules", () -> Scene.after(() -> Scene.staked(20, Cards.BUSTS), h -> {
            h.rule('d', true);
            h.rule('s', true);
            h.rule('n', true);
            h.deal();
        }), h -> h.surrender(0));
        Refusal.unsupported("the first hand of a split", () -> Scene.after(RoundSentences::tens, h -> h.split(0)), h -> h.surrender(0));
        Refusal.unsupported("the second hand of a split", () -> Scene.after(RoundSentences::tens, h -> {
            h.split(0);
            h.stand(0);
        }), h -> h.surrender(0));
        Refusal.unsupported("three cards", () -> Scene.after(() -> Scene.withGuests(1, 1000), h -> {
            h.rule('u', true);
            h.lay(2);
            h.bet(0, 0, 20);
            h.deal();
            h.hit(0);
        }), h -> h.surrender(0));
        Refusal.taken("two cards", RoundSentences::tens, h -> h.surrender(0));
        Refusal.taken("without a card", Scene::withoutCardsAndTwo, h -> h.surrender(2));
    }

    private static void cardAt() {
        Doc.says(23, "Returns a card of a hand, also of the last round.", "Returns the rank.");
        ShoeHouse house = PAIR.get();
        house.split(0);
        for (int round = 0; round < 2; round++) {
            Expect.same("first hand", house.cardAt(0, 0, 0), 8);
            Expect.same("first hand", house.cardAt(0, 0, 1), 3);
            Expect.same("second hand", house.cardAt(0, 1, 0), 8);
            Expect.same("second hand", house.cardAt(0, 1, 1), 9);
            Scene.standAll(house);
        }
        house.bet(1, 0, 5);
        Expect.same("ahead of the next round", house.cardAt(0, 1, 1), 9);
        Doc.says(23, SEAT);
        for (int seat = 0; seat <= 2; seat++) {
            Expect.same("seat " + seat, pairAt(seat).cardAt(seat, 0, 1), 8);
        }
        Refusal.indexes(() -> Scene.after(THREE, h -> {
            Scene.betAt(h, 3);
            h.lay(1);
            h.deal();
        }), 0, 2, (h, seat) -> h.cardAt(seat, 0, 0));
        Doc.says(23, "- `hand`: 0, or 1 of a split");
        Refusal.indexes(PAIR, 0, 0, (h, hand) -> h.cardAt(0, hand, 0));
        Refusal.indexes(() -> Scene.after(PAIR, h -> h.split(0)), 0, 1, (h, hand) -> h.cardAt(0, hand, 0));
        ShoeHouse next = Scene.after(RoundSentences::tens, h -> Scene.act(h, "pss"));
        next.bet(0, 0, 20);
        next.deal();
        Expect.index(next, "no split in the next round", () -> next.cardAt(0, 1, 0));
        Expect.same("two tens again", next.split(0), 20);
        Doc.says(23, "- `place`: the place, from 0");
        ShoeHouse many = Scene.withGuests(1, 1000);
        many.lay(2);
        many.bet(0, 0, 20);
        many.deal();
        Scene.act(many, "hhhhhhhhhhhh");
        for (int place = 0; place < 14; place++) {
            Expect.same("place " + place, many.cardAt(0, 0, place), place < 6 ? 1 : 2);
        }
        Expect.none(many, "place 14", () -> many.cardAt(0, 0, 14));
        Expect.none(many, "place -1", () -> many.cardAt(0, 0, -1));
    }

    private static void cardAtRefused() {
        Doc.says(23, "Throws `IndexOutOfBoundsException` if there is no such seat or hand");
        Refusal.index("seat 3", PAIR, h -> h.cardAt(3, 0, 0));
        Refusal.index("seat -1", PAIR, h -> h.cardAt(-1, 0, 0));
        Refusal.index("no hand yet", ShoeHouse::new, h -> h.cardAt(0, 0, 0));
        Refusal.index("a stake alone", () -> Scene.staked(20, Cards.EIGHTS), h -> h.cardAt(0, 0, 0));
        Refusal.index("another seat", PAIR, h -> h.cardAt(1, 0, 0));
        Refusal.index("no second hand", PAIR, h -> h.cardAt(0, 1, 0));
        Refusal.index("no third hand", () -> Scene.after(PAIR, h -> h.split(0)), h -> h.cardAt(0, 2, 0));
        Refusal.index("hand -1", PAIR, h -> h.cardAt(0, -1, 0));
        Refusal.index("taken away", () -> Scene.after(PAIR, h -> h.bar(0, 1)), h -> h.cardAt(0, 0, 0));
        Refusal.index("laid anew", () -> Scene.after(PAIR, h -> {
            h.stand(0);
            h.lay(1);
        }), h -> h.cardAt(0, 0, 0));
        Doc.says(23, "Throws `NoSuchElementException` if there is no such card");
        Refusal.none("place 2", PAIR, h -> h.cardAt(0, 0, 2));
        Refusal.none("place -1", PAIR, h -> h.cardAt(0, 0, -1));
        Refusal.none("the least place", PAIR, h -> h.cardAt(0, 0, Integer.MIN_VALUE));
        Refusal.none("the greatest place", PAIR, h -> h.cardAt(0, 0, Integer.MAX_VALUE));
        Refusal.none("place 2 of the second hand", () -> Scene.after(PAIR, h -> h.split(0)), h -> h.cardAt(0, 1, 2));
        Refusal.none("place 3", () -> Scene.after(() -> Scene.dealt(20, Cards.ACES), h -> h.hit(0)), h -> h.cardAt(0, 0, 3));
        Refusal.none("of the last round", () -> Scene.after(PAIR, h -> h.stand(0)), h -> h.cardAt(0, 0, 2));
        Doc.order(23, Doc.INDEX, Doc.NONE);
        Refusal.index("no seat, no card", PAIR, h -> h.cardAt(3, 0, 9));
        Refusal.index("no hand, no card", PAIR, h -> h.cardAt(0, 1, 9));
        Refusal.index("no hand yet, no card", ShoeHouse::new, h -> h.cardAt(0, 0, -1));
    }

    private static void dealerAt() {
        Doc.says(24, "Returns a card of the dealer, also of the last round, in which all are seen.", "Returns the rank.");
        ShoeHouse house = ROUND.get();
        Expect.same("the seen one", house.dealerAt(0), 6);
        house.stand(0);
        Expect.same("6", house.dealerAt(0), 6);
        Expect.same("the hidden one", house.dealerAt(1), 10);
        Expect.same("the one that was drawn", house.dealerAt(2), 10);
        house.bet(1, 0, 5);
        Expect.same("ahead of the next round", house.dealerAt(1), 10);
        house.deal();
        Expect.none(house, "the next round", () -> house.dealerAt(1));
        Doc.says(24, "- `place`: the place, from 0");
        ShoeHouse many = Scene.withGuests(1, 1000);
        many.lay(2);
        many.cut(7);
        many.bet(0, 0, 20);
        many.deal();
        many.stand(0);
        int[] due = {2, 2, 2, 2, 2, 2, 2, 3};
        for (int place = 0; place < due.length; place++) {
            Expect.same("place " + place, many.dealerAt(place), due[place]);
        }
        Expect.none(many, "the next one", () -> many.dealerAt(due.length));
        Doc.says(24, "Throws `NoSuchElementException` if there is no such card, or it is hidden");
        Refusal.none("no round yet", ShoeHouse::new, h -> h.dealerAt(0));
        Refusal.none("a stake alone", () -> Scene.staked(20, Cards.EIGHTS), h -> h.dealerAt(0));
        Refusal.none("the hidden one", ROUND, h -> h.dealerAt(1));
        Refusal.none("behind the hidden one", ROUND, h -> h.dealerAt(2));
        Refusal.none("place -1", ROUND, h -> h.dealerAt(-1));
        Refusal.none("the least place", ROUND, h -> h.dealerAt(Integer.MIN_VALUE));
        Refusal.none("the greatest place", ROUND, h -> h.dealerAt(Integer.MAX_VALUE));
        Refusal.none("of the last round", () -> Scene.after(ROUND, h -> h.stand(0)), h -> h.dealerAt(3));
        Refusal.none("laid anew", () -> Scene.after(ROUND, h -> {
            h.stand(0);
            h.lay(2);
        }), h -> h.dealerAt(0));
    }

    private static void turn() {
        Doc.says(25, "Returns which seat plays.", "Returns the seat.");
        for (int seat = 0; seat <= 2; seat++) {
            Expect.same("seat " + seat, pairAt(seat).turn(), seat);
        }
        Expect.same("behind a natural", Scene.dealtToTwo("i i").turn(), 2);
        Expect.same("behind a lost hand", actedAtFirst("h").turn(), 2);
        Expect.same("behind a hand taken away", Scene.after(TWO_SEATS, h -> h.bar(0, 1)).turn(), 2);
        Expect.same("the second hand of a split", Scene.after(PAIR, h -> Scene.act(h, "ps")).turn(), 0);
        Doc.says(25, NO_ROUND);
        Refusal.state("a new house", ShoeHouse::new, ShoeHouse::turn);
        Refusal.state("a stake", () -> Scene.staked(20, Cards.EIGHTS), ShoeHouse::turn);
        Refusal.state("the round is over", () -> Scene.after(PAIR, h -> h.stand(0)), ShoeHouse::turn);
        Refusal.state("over at once", () -> Scene.dealt(20, Cards.TEN_AND_ACE), ShoeHouse::turn);
    }
}
