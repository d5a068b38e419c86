import java.util.List;
import java.util.function.Supplier;

/** The sentences of the terms about the shoe, rounds, odds and counts. */
final class CardTerms {
    private CardTerms() {
    }

    static void run() {
        decks();
        cutsAndRiffles();
        dealtAside();
        stakesOfSeats();
        orderOfTheDeal();
        valuesOfHands();
        naturals();
        emptyShoes();
        handsPlayBySeats();
        splits();
        doubles();
        surrenders();
        dealerDraws();
        paysOfNaturals();
        paysOfOtherHands();
        whatIsSeen();
        chances();
        counts();
        suspicions();
    }

    private static ShoeHouse laid(int decks) {
        ShoeHouse house = Scene.withGuests(2, 1000);
        house.lay(decks);
        return house;
    }

    private static void decks() {
        Doc.term("The shoe has 1 or 2 decks, each of four cards of each rank from 1 to 9, 1 being the ace, and sixteen of the rank 10;");
        for (int decks = 1; decks <= 2; decks++) {
            Expect.same("cards", laid(decks).lay(decks), 52 * decks);
            for (int rank = 1; rank <= 10; rank++) {
                Expect.same("cards of " + rank, laid(decks).left(rank), decks * (rank == 10 ? 16 : 4));
            }
        }
        Refusal.argument("no deck", ShoeHouse::new, h -> h.lay(0));
        Refusal.argument("three decks", ShoeHouse::new, h -> h.lay(3));
        Expect.same("1 is the ace", Snapshot.cards(Scene.dealt(20, Cards.SEAT_NATURAL), 0, 0), "1 10 ");
        Expect.same("a natural", Scene.dealt(20, Cards.SEAT_NATURAL).chips(0), 1030);
        Doc.term("as it is laid, the cards lie by ranks, rising.");
        for (int decks = 1; decks <= 2; decks++) {
            Expect.same("order", ShoeTest.order(laid(decks), 52 * decks).equals(ShoeTest.laid(decks)), true);
        }
        Doc.term("It is not laid at first.");
        for (int rank = 1; rank <= 10; rank++) {
            Expect.same("no card", new ShoeHouse().left(rank), 0);
        }
        Refusal.argument("nothing to cut", ShoeHouse::new, h -> h.cut(1));
        Refusal.unsupported("nothing to riffle", ShoeHouse::new, h -> h.riffle(true));
        Refusal.unsupported("nothing to deal", () -> Scene.after(() -> Scene.withGuests(1, 9), h -> h.bet(0, 0, 2)), ShoeHouse::deal);
    }

    private static void cutsAndRiffles() {
        Doc.term("It can be laid, cut and riffled between rounds;");
        Supplier<ShoeHouse> round = () -> Scene.dealt(20, Cards.BUSTS);
        Supplier<ShoeHouse> over = () -> Scene.after(round, h -> h.stand(0));
        Refusal.state("lay", round, h -> h.lay(1));
        Refusal.state("cut", round, h -> h.cut(1));
        Refusal.state("riffle", round, h -> h.riffle(true));
        Refusal.taken("lay", over, h -> h.lay(1));
        Refusal.taken("cut", over, h -> h.cut(1));
        Refusal.taken("riffle", over, h -> h.riffle(true));
        Refusal.taken("ahead of the first round", () -> laid(1), h -> h.cut(1));
        Doc.term("a cut brings the first cards behind all others;");
        for (int cards : new int[] {1, 2, 26, 51}) {
            ShoeHouse house = laid(1);
            house.cut(cards);
            Expect.same("cut " + cards, ShoeTest.order(house, 52).equals(ShoeTest.cutBy(ShoeTest.laid(1), cards)), true);
        }
        ShoeHouse two = laid(2);
        two.cut(103);
        Expect.same("all but one", ShoeTest.order(two, 104).equals(ShoeTest.cutBy(ShoeTest.laid(2), 103)), true);
        Doc.term("to riffle parts it into halves, and takes from both in turn, the first half first, or the other one.");
        for (boolean isOut : new boolean[] {true, false}) {
            for (int decks = 1; decks <= 2; decks++) {
                ShoeHouse house = laid(decks);
                house.riffle(isOut);
                List<Integer> due = ShoeTest.riffledBy(ShoeTest.laid(decks), isOut);
                Expect.same("riffle of " + decks, ShoeTest.order(house, 52 * decks).equals(due), true);
                house.riffle(!isOut);
                due = ShoeTest.riffledBy(due, !isOut);
                Expect.same("another riffle", ShoeTest.order(house, 52 * decks).equals(due), true);
            }
        }
    }

    private static void dealtAside() {
        Doc.term("Cards are dealt from its front;");
        ShoeHouse house = laid(1);
        house.cut(30);
        List<Integer> order = ShoeTest.cutBy(ShoeTest.laid(1), 30);
        house.bet(0, 0, 20);
        Expect.same("the second card", house.deal(), order.get(1));
        Expect.same("the first and third", Snapshot.cards(house, 0, 0), order.get(0) + " " + order.get(2) + " ");
        house.stand(0);
        Expect.same("the second and fourth", Snapshot.dealer(house), order.get(1) + " " + order.get(3) + " ");
        Expect.same("the others stay", ShoeTest.order(house, 48).equals(order.subList(4, 52)), true);
        Doc.term("what was dealt lies aside until it is laid anew, as at first, by which the last round is forgotten.");
        house.riffle(true);
        house.cut(7);
        Expect.argument(house, "no card comes back", () -> house.cut(48));
        Expect.same("aside", house.left(8) + house.left(9), 4);
        Expect.same("a hand of the last round", house.cardAt(0, 0, 0), 8);
        house.lay(1);
        Expect.same("all cards", house.left(8) + house.left(9), 8);
        Expect.same("as at first", ShoeTest.order(house, 52).equals(ShoeTest.laid(1)), true);
        Expect.index(house, "forgotten", () -> house.cardAt(0, 0, 0));
        Expect.none(house, "forgotten", () -> house.dealerAt(0));
        house.weigh(8, 3);
        Expect.same("not seen any more", house.count(), 0);
    }

    private static void stakesOfSeats() {
        Doc.term("At most three seats have a stake of a guest each, 2 to 1000.");
        ShoeHouse house = Scene.withGuests(3, 1000);
        Expect.same("1000", house.bet(0, 0, 1000), 0);
        Expect.same("2", house.bet(1, 1, 2), 998);
        Expect.same("a second seat of a guest", house.bet(2, 1, 998), 0);
        for (int seat = 0; seat < 3; seat++) {
            int asked = seat;
            Expect.unsupported(house, "another stake at a seat", () -> house.bet(asked, 2, 2));
        }
        Expect.index(house, "a fourth seat", () -> house.bet(3, 2, 2));
        Expect.argument(house, "1", () -> house.bet(0, 2, 1));
        Expect.argument(house, "1001", () -> house.bet(0, 2, 1001));
        Doc.term("To deal, there must be 30 cards at least:");
        for (int cards = 29; cards <= 31; cards++) {
            ShoeHouse few = laid(2);
            // Tens alone are left then.
            Scene.standRounds(few, cards == 31 ? "323222321" : cards == 30 ? "313231231" : "3132312311");
            int left = Scene.cardsLeft(few);
            few.bet(0, 1, 2);
            if (left >= 30) {
                Expect.same(left + " cards", few.deal(), 10);
            } else {
                Expect.unsupported(few, left + " cards", few::deal);
            }
        }
        ShoeHouse thirty = Scene.withGuests(1, 1000);
        thirty.lay(1);
        thirty.cut(6);
        Scene.standRounds(thirty, "131");
        Scene.betAt(thirty, 3);
        Expect.same("cards", Scene.cardsLeft(thirty), 30);
        Expect.same("30 cards", thirty.deal() > 0, true);
        ShoeHouse less = Scene.withGuests(1, 1000);
        less.lay(1);
        less.cut(44);
        Scene.standRounds(less, "223");
        Scene.betAt(less, 1);
        Expect.same("cards", Scene.cardsLeft(less), 29);
        Expect.unsupported(less, "29 cards", less::deal);
    }

    private static void orderOfTheDeal() {
        Doc.term("each such seat by rising numbers gets a card, the dealer one, that is seen, then each a second one, and the dealer one "
            + "that is hidden.");
        int[][] seats = {{0}, {1}, {2}, {0, 1}, {0, 2}, {1, 2}, {2, 1}, {0, 1, 2}, {2, 0, 1}};
        for (int[] asked : seats) {
            ShoeHouse house = laid(1);
            Scene.mix(house, "i i o 17 i o 1");
            List<Integer> order = ShoeTest.order(house, 52);
            for (int seat : asked) {
                house.bet(seat, 0, 20);
            }
            int hands = asked.length;
            Expect.same("the dealer's first", house.deal(), order.get(hands));
            Expect.none(house, "the hidden one", () -> house.dealerAt(1));
            int hand = 0;
            for (int seat = 0; seat < 3; seat++) {
                boolean isStaked = false;
                for (int each : asked) {
                    isStaked = isStaked || each == seat;
                }
                if (isStaked) {
                    String due = order.get(hand) + " " + order.get(hands + 1 + hand) + " ";
                    Expect.same("seat " + seat, Snapshot.cards(house, seat, 0), due);
                    hand++;
                }
            }
            Scene.standAll(house);
            Expect.same("the dealer's second", house.dealerAt(1), order.get(2 * hands + 1));
        }
    }

    private static void valuesOfHands() {
        Doc.term("The value of a hand is the sum of ranks;");
        Expect.same("10 and 8 and 10", Scene.dealt(20, Cards.BUSTS).hit(0), 28);
        Expect.same("5 and 6 and 10", Scene.dealt(20, Cards.HIT_TO_21).hit(0), 21);
        Expect.same("9 and 2 and 7", Scene.dealt(20, Cards.DOUBLE_18).twice(0), 18);
        Expect.same("8 and 3", Scene.dealt(20, Cards.EIGHTS).split(0), 11);
        Doc.term("an ace counts 11 if the sum is then at most 21, and the hand is soft.");
        Expect.same("1 and 10 is 21", Scene.dealt(20, Cards.ACES).split(0), 21);
        Expect.same("1, 1 and 10 is 12", Scene.dealt(20, Cards.ACES).hit(0), 12);
        ShoeHouse house = laid(2);
        house.bet(0, 0, 20);
        house.deal();
        int[] due = {13, 14, 15, 16, 18, 20, 12};
        for (int value : due) {
            Expect.same("one ace of many is 11, up to 21", house.hit(0), value);
        }
        ShoeHouse soft = Scene.staked(20, Cards.SOFT_SIX);
        soft.rule('s', true);
        soft.deal();
        soft.stand(0);
        Expect.same("6 and 1 is soft", Snapshot.dealer(soft), "6 1 9 2 ");
    }

    private static void naturals() {
        Doc.term("A natural is a 21 of the first two cards of a seat or the dealer.");
        Expect.same("a seat's", Scene.dealt(20, Cards.SEAT_NATURAL).chips(0), 1030);
        Expect.same("the dealer's", Scene.dealt(20, Cards.TEN_AND_ACE).tray(0), 20);
        ShoeHouse three = Scene.dealt(20, Cards.HIT_TO_21);
        three.hit(0);
        Expect.same("three cards are none", three.chips(0), 1020);
        Doc.term("If the dealer has a natural, the round is settled at once.");
        for (String recipe : new String[] {Cards.TEN_AND_ACE, Cards.ACE_AND_TEN}) {
            ShoeHouse house = Scene.dealt(20, recipe);
            Expect.state(house, "over", house::turn);
            Expect.same("settled", house.tray(0), 20);
            Expect.same("both cards are seen", house.dealerAt(0) + house.dealerAt(1), 11);
            Expect.same("no card more", Scene.cardsLeft(house), 48);
            Expect.same("the seat is free", house.bet(0, 0, 20), 960);
        }
    }

    private static void emptyShoes() {
        Doc.term("In a shoe without a card nobody takes one.");
        Refusal.unsupported("a hit", Scene::withoutCards, h -> h.hit(2));
        Refusal.unsupported("a double", Scene::withoutCardsAndTwo, h -> h.twice(2));
        Refusal.unsupported("a split", Scene::withoutCardsAndPair, h -> h.split(2));
        ShoeHouse dealer = Scene.withoutCards();
        Expect.same("a hand can stand", dealer.stand(2), -1);
        Expect.same("the dealer has 5 and takes none", Snapshot.dealer(dealer), "2 3 ");
        Expect.same("sound", dealer.isSound(), true);
    }

    private static void handsPlayBySeats() {
        Doc.term("Otherwise hands play by seats;");
        ShoeHouse house = Scene.withGuests(1, 1000);
        Scene.betAt(house, 3);
        Scene.lay(house, 1, "3");
        house.deal();
        for (int seat = 0; seat < 3; seat++) {
            Expect.same("the turn", house.turn(), seat);
            int other = (seat + 1) % 3;
            Expect.unsupported(house, "not yet, or not any more", () -> house.stand(other));
            house.stand(seat);
        }
        Doc.term("a natural or a 21 stands at once, a hand above 21 is lost at once.");
        ShoeHouse natural = Scene.dealtToTwo("i i");
        Expect.same("a natural does not play", natural.turn(), 2);
        ShoeHouse twentyOne = Scene.dealt(20, Cards.HIT_TO_21);
        Expect.same("21", twentyOne.hit(0), 21);
        Expect.state(twentyOne, "it stood", twentyOne::turn);
        ShoeHouse split = Scene.dealt(20, Cards.ACES_AND_FIVE);
        split.split(0);
        Expect.same("the 21 of a split stood", Snapshot.cards(split, 0, 0), "1 10 ");
        Expect.same("the second hand plays", split.hit(0), 16);
        ShoeHouse lost = Scene.dealtToTwo("i 48 i i");
        Expect.same("above 21", lost.hit(0), 23);
        Expect.same("the next one plays", lost.turn(), 2);
        Expect.same("lost at once", lost.tray(0), 20);
        ShoeHouse twenty = Scene.dealt(20, Cards.BUSTS);
        Expect.same("18 plays", twenty.turn(), 0);
    }

    private static void splits() {
        Doc.term("With two cards of one rank the first hand of a seat can be split, for the same stake again:");
        ShoeHouse house = Scene.dealt(20, Cards.EIGHTS);
        house.split(0);
        Expect.same("staked", house.staked(0), 40);
        Expect.same("chips", house.chips(0), 960);
        Refusal.unsupported("10 and 8", () -> Scene.dealt(20, Cards.BUSTS), h -> h.split(0));
        Refusal.unsupported("three cards", () -> Scene.after(() -> Scene.dealt(20, Cards.ACES), h -> h.hit(0)), h -> h.split(0));
        Supplier<ShoeHouse> tens = () -> Scene.after(() -> laid(1), h -> {
            h.cut(36);
            h.bet(0, 0, 20);
            h.deal();
            h.split(0);
        });
        Refusal.unsupported("the first hand again", tens, h -> h.split(0));
        Refusal.unsupported("the second hand", () -> Scene.after(tens, h -> h.stand(0)), h -> h.split(0));
        Doc.term("both get a second card, and play one behind the other;");
        Expect.same("the first one", Snapshot.cards(house, 0, 0), "8 3 ");
        Expect.same("the second one", Snapshot.cards(house, 0, 1), "8 9 ");
        Expect.same("the first one plays", house.hit(0), 21);
        Expect.same("then the second one", house.hit(0), 26);
        Expect.same("both got their cards", Snapshot.cards(house, 0, 0) + Snapshot.cards(house, 0, 1), "8 3 10 8 9 9 ");
        ShoeHouse next = Scene.after(tens, h -> Scene.act(h, "ss"));
        next.rule('u', true);
        next.bet(0, 0, 20);
        next.deal();
        Expect.same("the next round is no split", next.surrender(0), 10);
        next.bet(0, 0, 20);
        next.deal();
        Expect.same("it can be split again", next.split(0), 20);
        Scene.standAll(next);
        next.bet(0, 0, 20);
        Scene.lay(next, 1, Cards.SEAT_NATURAL);
        int before = next.chips(0);
        next.deal();
        Expect.same("a natural at a seat that was split", next.chips(0), before + 50);
        Doc.term("a hand of a split is no natural.");
        ShoeHouse aces = Scene.dealt(11, Cards.ACES);
        aces.split(0);
        Expect.same("both are paid once", aces.chips(0), 1022);
        Expect.same("nothing is broken", aces.broken(), 0);
        ShoeHouse even = Scene.dealt(20, Cards.ACES_AGAINST_21);
        even.split(0);
        Expect.same("the dealer", Snapshot.dealer(even), "6 5 10 ");
        Expect.same("21 and 21, both come back", even.chips(0), 1000);
    }

    private static void doubles() {
        Doc.term("With two cards a hand can be doubled, for the same stake again:");
        ShoeHouse house = Scene.dealt(20, Cards.DOUBLE_18);
        house.twice(0);
        Expect.same("staked", house.staked(0), 40);
        Expect.same("40 won", house.chips(0), 1040);
        ShoeHouse lost = Scene.dealt(20, Cards.BUSTS);
        lost.twice(0);
        Expect.same("40 lost", lost.tray(0), 40);
        Refusal.unsupported("three cards", () -> Scene.after(() -> Scene.dealt(20, Cards.ACES), h -> h.hit(0)), h -> h.twice(0));
        Doc.term("it gets one card and stands;");
        Expect.same("one card", Snapshot.cards(house, 0, 0), "9 2 7 ");
        Expect.state(house, "it stands", house::turn);
        ShoeHouse soft = Scene.dealtToTwo("20 i i i");
        soft.twice(0);
        Expect.same("the next one plays", soft.turn(), 2);
        Expect.none(soft, "no fourth card", () -> soft.cardAt(0, 0, 3));
        Doc.term("a hand of a split by the rule 'd' alone.");
        Supplier<ShoeHouse> split = () -> Scene.after(() -> Scene.dealt(20, Cards.EIGHTS), h -> h.split(0));
        Refusal.unsupported("no rule", split, h -> h.twice(0));
        Refusal.unsupported("no rule, the second hand", () -> Scene.after(split, h -> h.stand(0)), h -> h.twice(0));
        ShoeHouse ruled = Scene.staked(20, Cards.EIGHTS);
        ruled.rule('d', true);
        ruled.deal();
        ruled.split(0);
        Expect.same("by the rule", ruled.twice(0), 21);
        Expect.same("the second hand", ruled.twice(0), 26);
        Expect.same("80 staked", ruled.staked(0), 80);
        for (char other : "usn".toCharArray()) {
            Refusal.unsupported("another rule", () -> Scene.after(() -> Scene.staked(20, Cards.EIGHTS), h -> {
                h.rule(other, true);
                h.deal();
                h.split(0);
            }), h -> h.twice(0));
        }
    }

    private static void surrenders() {
        Doc.term("With two cards of no split a hand can be surrendered by the rule 'u':");
        Supplier<ShoeHouse> ruled = () -> Scene.after(() -> Scene.staked(20, Cards.EIGHTS), h -> {
            h.rule('u', true);
            h.deal();
        });
        Refusal.taken("two cards", ruled, h -> h.surrender(0));
        Refusal.unsupported("a split", () -> Scene.after(ruled, h -> h.split(0)), h -> h.surrender(0));
        Refusal.unsupported("no rule", () -> Scene.dealt(20, Cards.EIGHTS), h -> h.surrender(0));
        Refusal.unsupported("three cards", () -> Scene.after(() -> Scene.staked(20, Cards.ACES), h -> {
            h.rule('u', true);
            h.deal();
            h.hit(0);
        }), h -> h.surrender(0));
        Doc.term("half of the stake, cut, comes back, the rest goes into the tray at once.");
        for (int stake : new int[] {2, 3, 4, 5, 11, 999, 1000}) {
            ShoeHouse house = Scene.withGuests(2, 1000);
            house.rule('u', true);
            house.bet(0, 0, stake);
            house.bet(1, 1, 2);
            Scene.lay(house, 1, Cards.EVEN_19);
            house.deal();
            Expect.same("half of " + stake, house.surrender(0), stake / 2);
            Expect.same("chips", house.chips(0), 1000 - stake + stake / 2);
            Expect.same("at once", house.turn(), 1);
            Expect.same("the rest", house.tray(0), stake - stake / 2);
            Expect.same("nothing is broken", house.broken(), 0);
        }
    }

    private static String dealerOf(String recipe, boolean isSoftRule) {
        ShoeHouse house = Scene.staked(20, recipe);
        house.rule('s', isSoftRule);
        house.deal();
        house.stand(0);
        return Snapshot.dealer(house);
    }

    private static void dealerDraws() {
        Doc.term("When no hand plays any more, the dealer shows the hidden card, and, if a hand is left that is no natural, draws below "
            + "17, and at a soft 17 by the rule 's', as long as the shoe has cards.");
        for (boolean isSoftRule : new boolean[] {false, true}) {
            Expect.same("16 draws", dealerOf(Cards.BUSTS, isSoftRule), "6 10 10 ");
            Expect.same("16, then 21", dealerOf(Cards.SIXTEEN, isSoftRule).startsWith("6 10 6 "), true);
            Expect.same("a hard 17 stands", dealerOf(Cards.HARD_17, isSoftRule), "7 10 ");
            Expect.same("a soft 18 stands", dealerOf(Cards.SOFT_18, isSoftRule), "1 7 ");
            Expect.same("a hard 19 stands", dealerOf(Cards.EVEN_19, isSoftRule), "9 10 ");
            Expect.same("a soft 17", dealerOf(Cards.SOFT_SIX, isSoftRule), isSoftRule ? "6 1 9 2 " : "6 1 ");
        }
        ShoeHouse lost = Scene.dealt(20, Cards.BUSTS);
        lost.hit(0);
        Expect.same("no hand is left", Snapshot.dealer(lost), "6 10 ");
        ShoeHouse given = Scene.after(() -> Scene.staked(20, Cards.BUSTS), h -> {
            h.rule('u', true);
            h.deal();
            h.surrender(0);
        });
        Expect.same("it was surrendered", Snapshot.dealer(given), "6 10 ");
        ShoeHouse barred = Scene.after(() -> Scene.dealt(20, Cards.BUSTS), h -> h.bar(0, 1));
        Expect.same("it was taken away", Snapshot.dealer(barred), "6 10 ");
        Expect.same("a natural alone", Snapshot.dealer(Scene.dealt(20, Cards.SEAT_NATURAL)), "9 5 ");
        ShoeHouse other = Scene.dealtToTwo(Cards.NATURAL_AND_19_AGAINST_21);
        other.stand(2);
        Expect.same("a natural and another hand", Snapshot.dealer(other), "6 5 10 ");
        ShoeHouse split = Scene.after(() -> Scene.dealt(20, Cards.ACES_AGAINST_21), h -> h.split(0));
        Expect.same("the 21 of a split is no natural", Snapshot.dealer(split), "6 5 10 ");
        ShoeHouse shown = Scene.dealt(20, Cards.HIT_TO_21);
        Expect.none(shown, "hidden while a hand plays", () -> shown.dealerAt(1));
        Expect.same("it is not seen", shown.left(7), 4);
        shown.hit(0);
        Expect.same("shown", shown.dealerAt(1), 7);
        Expect.same("it is seen", shown.left(7), 3);
        Expect.same("no card in the shoe", Snapshot.dealer(Scene.after(Scene::withoutCards, h -> h.stand(2))), "2 3 ");
        ShoeHouse last = Scene.after(Scene::withLastCard, h -> h.stand(2));
        Expect.none(last, "the last card alone", () -> last.dealerAt(3));
        Expect.same("the last card", last.dealerAt(2) > 0, true);
    }

    private static void paysOfNaturals() {
        Doc.term("A natural is paid 3 by 2 of the stake, by the rule 'n' 6 by 5, cut, the cut parts being counted as broken, in tenths;");
        for (boolean isLess : new boolean[] {false, true}) {
            int broken = 0;
            ShoeHouse house = Scene.withGuests(1, 5000);
            house.rule('n', isLess);
            for (int stake : new int[] {2, 3, 4, 5, 6, 7, 8, 9, 10, 11, 999, 1000}) {
                int before = house.chips(0);
                house.bet(0, 0, stake);
                Scene.lay(house, 1, Cards.SEAT_NATURAL);
                house.deal();
                int tenths = isLess ? 12 * stake : 15 * stake;
                Expect.same("paid of " + stake, house.chips(0) - before, tenths / 10);
                broken += tenths % 10;
                Expect.same("broken", house.broken(), broken);
            }
        }
        ShoeHouse against = Scene.dealtToTwo(Cards.NATURAL_AND_19_AGAINST_21);
        against.stand(2);
        Expect.same("also against a 21 of three cards", against.chips(0), 1030);
        Expect.same("the 19 lost", against.chips(1), 980);
        Doc.term("an even natural of the dealer lets the stake come back;");
        for (boolean isLess : new boolean[] {false, true}) {
            ShoeHouse even = Scene.staked(11, Cards.BOTH_NATURAL);
            even.rule('n', isLess);
            even.deal();
            Expect.same("chips", even.chips(0), 1000);
            Expect.same("nothing is broken", even.broken(), 0);
            Expect.same("tray and vault", even.tray(0) + even.vault(), 99000);
            Expect.state(even, "over", even::turn);
        }
    }

    private static void paysOfOtherHands() {
        Doc.term("other hands win their stake with a greater value, or with a dealer above 21, get it back with the same value, and lose "
            + "it otherwise.");
        String[] recipes = {Cards.SOFT_ACE, Cards.SOFT_18, Cards.BUSTS, Cards.SOFT_SIX, Cards.EVEN_19, Cards.HARD_17, Cards.SIXTEEN};
        String[] hands = {"18 to 17", "19 to 18", "18 to 26", "17 to 17", "19 to 19", "20 to 17", "15 to 22"};
        int[] due = {20, 20, 20, 0, 0, 20, 20};
        for (int i = 0; i < recipes.length; i++) {
            ShoeHouse house = Scene.dealt(20, recipes[i]);
            house.stand(0);
            Expect.same(hands[i] + ", dealer " + Snapshot.dealer(house), house.chips(0), 1000 + due[i]);
        }
        ShoeHouse less = Scene.dealtToTwo("o o 11");
        less.stand(0);
        Expect.same("less is lost", less.chips(0), 980);
        ShoeHouse soft = Scene.staked(20, Cards.SOFT_SIX);
        soft.rule('s', true);
        soft.deal();
        soft.stand(0);
        Expect.same("17 to 18 is lost", soft.chips(0), 980);
        ShoeHouse above = Scene.dealt(20, Cards.BUSTS);
        above.hit(0);
        Expect.same("above 21 is lost, also with a dealer above", above.chips(0), 980);
        ShoeHouse natural = Scene.dealtToTwo("o 27 o o i i i o o o i 24");
        Expect.same("20 and 15 lose to a natural", natural.tray(0), 40);
    }

    private static void whatIsSeen() {
        Doc.term("Odds by what is left look at all cards but those that are seen:");
        ShoeHouse house = Scene.dealt(20, Cards.BUSTS);
        Expect.same("49 cards", Scene.cardsLeft(house), 49);
        Expect.same("15 tens of them", house.bustOver(12), 15);
        Expect.same("15 tens of them", house.bustUnder(12), 49);
        Doc.term("those dealt aside, hands and the dealer's first card are;");
        Expect.same("10 of the hand", house.left(10), 15);
        Expect.same("8 of the hand", house.left(8), 3);
        Expect.same("6 of the dealer", house.left(6), 3);
        house.hit(0);
        Expect.same("10 that was hit, and the hidden one", house.left(10), 13);
        house.bet(0, 0, 2);
        house.deal();
        Expect.same("those dealt aside too", Scene.cardsLeft(house), 47 - 3);
        Doc.term("the hidden one is not.");
        ShoeHouse hidden = Scene.dealt(20, Cards.HIT_TO_21);
        Expect.same("the hidden 7", hidden.left(7), 4);
        Expect.same("of 49", hidden.bustUnder(12), 49);
        Expect.same("alone", Scene.withoutCards().left(3), 1);
        Expect.same("alone", Scene.withoutCards().bustOver(19), 1);
        hidden.stand(0);
        Expect.same("it is shown", hidden.left(7), 3);
    }

    private static void chances() {
        Doc.term("The chance that the dealer ends at a value, a natural being 21, is reckoned by doubles:",
            "from the seen card on, for each rank from 1 to 10 that is left, rising, the number of these divided by that of all, both "
                + "converted to double, times the chance from there, added to the sum, 0.0 at first;");
        for (int decks = 1; decks <= 2; decks++) {
            for (int cut = 1; cut < 52 * decks; cut += 5) {
                for (boolean isSoftRule : new boolean[] {false, true}) {
                    ShoeHouse house = laid(decks);
                    house.rule('s', isSoftRule);
                    house.cut(cut);
                    house.bet(0, 0, 20);
                    house.deal();
                    if (Scene.isOn(house)) {
                        OddsTest.compare(house, isSoftRule);
                    }
                }
            }
        }
        ShoeHouse ace = laid(1);
        ace.bet(1, 0, 20);
        ace.deal();
        Expect.same("an ace is seen", ace.dealerAt(0), 1);
        Expect.same("a natural is 21", ace.dealerEnds(21) > 16.0 / 49.0, true);
        Doc.term("at an end it is 1.0 or 0.0.");
        ShoeHouse tens = Scene.withTens();
        tens.bet(0, 0, 2);
        tens.deal();
        for (int value = 17; value <= 22; value++) {
            Expect.same("tens end at 20", tens.dealerEnds(value), value == 20 ? 1.0 : 0.0);
        }
        Doc.term("Without a card left it is 0.0.");
        for (int value = 17; value <= 22; value++) {
            Expect.same("2 and the last card", Scene.withoutCards().dealerEnds(value), 0.0);
            Expect.same("10 and the last card", Scene.withHiddenTen().dealerEnds(value), value == 20 ? 1.0 : 0.0);
        }
    }

    private static void counts() {
        Doc.term("Weights from -3 to 3 are told for ranks, 0 at first.");
        for (int rank = 1; rank <= 10; rank++) {
            ShoeHouse house = new ShoeHouse();
            Expect.same("0 at first", house.weigh(rank, -3), 0);
            Expect.same("-3", house.weigh(rank, 3), -3);
            int asked = rank;
            Expect.argument(house, "-4", () -> house.weigh(asked, -4));
            Expect.argument(house, "4", () -> house.weigh(asked, 4));
            Expect.same("3", house.weigh(rank, 0), 3);
        }
        Doc.term("The count is the sum of weights, as they are by now, of all cards that were seen since the shoe was laid;");
        ShoeHouse house = Scene.dealt(20, Cards.BUSTS);
        house.weigh(10, -2);
        house.weigh(8, 3);
        house.weigh(6, 1);
        house.weigh(9, 3);
        Expect.same("10 8 6", house.count(), 2);
        house.weigh(8, -3);
        Expect.same("as they are by now", house.count(), -4);
        house.hit(0);
        Expect.same("10, and the hidden 10", house.count(), -8);
        house.bet(0, 0, 2);
        house.deal();
        Expect.same("the round before, and 9", house.count(), -8 + weightsOfHands(house));
        Scene.standAll(house);
        house.lay(1);
        Expect.same("laid anew", house.count(), 0);
        Doc.term("the true count is it times 52, divided by the number of cards that were not seen, cut.");
        for (int decks = 1; decks <= 2; decks++) {
            for (int weight = -3; weight <= 3; weight++) {
                ShoeHouse told = laid(decks);
                told.cut(30 * decks);
                told.bet(0, 0, 20);
                told.deal();
                told.weigh(8, weight);
                Expect.same("count", told.count(), weight * (4 * decks - told.left(8)));
                Expect.same("true count", told.trueCount(), told.count() * 52 / (52 * decks - 3));
            }
        }
        ShoeHouse two = laid(2);
        two.bet(0, 0, 20);
        two.deal();
        two.stand(0);
        Expect.same("one 2 was seen", two.left(2), 7);
        Expect.same("95 were not", Scene.cardsLeft(two), 95);
        int[] due = {-1, -1, 0, 0, 0, 1, 1};
        for (int weight = -3; weight <= 3; weight++) {
            two.weigh(2, weight);
            Expect.same(52 * weight + " by 95, cut", two.trueCount(), due[weight + 3]);
        }
    }

    /** The weights of the cards that are seen in this round, by those of counts(). */
    private static int weightsOfHands(ShoeHouse house) {
        int sum = 0;
        for (String rank : (Snapshot.cards(house, 0, 0) + house.dealerAt(0)).trim().split(" ")) {
            sum += rank.equals("10") ? -2 : rank.equals("8") ? -3 : rank.equals("6") ? 1 : rank.equals("9") ? 3 : 0;
        }
        return sum;
    }

    private static boolean isSuspected(int[] high, int[] others) {
        ShoeHouse house = ShoeTest.watched();
        for (int chips : others) {
            ShoeTest.betAtSeat(house, 0, chips);
        }
        ShoeTest.tellHigh(house);
        for (int chips : high) {
            Expect.same("the true count", house.trueCount(), 2);
            ShoeTest.betAtSeat(house, 0, chips);
        }
        return house.isSuspected(0);
    }

    private static void suspicions() {
        Doc.term("A guest is suspected if in three bets or more at the cards, doubles and splits left out, at a true count of 2 or more as "
            + "they are made, and in three others, also those ahead of a shoe that has cards that were not seen, the mean of the former "
            + "is three times that of the latter or more.");
        Expect.same("three and three", isSuspected(new int[] {60, 60, 60}, new int[] {20, 20, 20}), true);
        Expect.same("two high ones", isSuspected(new int[] {900, 900}, new int[] {2, 2, 2}), false);
        Expect.same("two others", isSuspected(new int[] {900, 900, 900}, new int[] {2, 2}), false);
        Expect.same("more than three", isSuspected(new int[] {60, 60, 60, 60}, new int[] {20, 20, 20, 20, 20}), true);
        Expect.same("a chip less", isSuspected(new int[] {60, 60, 59}, new int[] {20, 20, 20}), false);
        Expect.same("a chip more", isSuspected(new int[] {60, 60, 61}, new int[] {20, 20, 20}), true);
        Expect.same("means, not sums", isSuspected(new int[] {59, 59, 59, 59, 59}, new int[] {20, 20, 20}), false);
        Expect.same("means, not sums", isSuspected(new int[] {60, 60, 60}, new int[] {20, 20, 20, 20}), true);
        suspicionsOfDoublesAndSplits();
        ShoeHouse below = Scene.withGuests(1, 4000);
        ShoeTest.betOfTwoDecks(below, 20);
        for (int i = 0; i < 3; i++) {
            below.weigh(8, 1);
            Expect.same("2 by 100", below.trueCount(), 1);
            ShoeTest.betOfTwoDecks(below, 60);
            below.weigh(8, 0);
            ShoeTest.betOfTwoDecks(below, 20);
        }
        Expect.same("1 is no 2", below.isSuspected(0), false);
        ShoeHouse ahead = Scene.withGuests(1, 4000);
        ahead.weigh(8, 3);
        ahead.bet(0, 0, 10);
        ahead.bet(1, 0, 10);
        ahead.lay(1);
        ahead.bet(2, 0, 10);
        ahead.cut(30);
        ahead.deal();
        Scene.standAll(ahead);
        Expect.same("high", ahead.trueCount() >= 2, true);
        ahead.bet(0, 0, 30);
        ahead.bet(1, 0, 30);
        Expect.same("not yet", ahead.isSuspected(0), false);
        ahead.bet(2, 0, 30);
        Expect.same("bets without a shoe are others", ahead.isSuspected(0), true);
        ShoeHouse empty = Scene.withCards(0);
        for (int rank = 1; rank <= 10; rank++) {
            empty.weigh(rank, 3);
        }
        Scene.betAt(empty, 3);
        Expect.same("all cards were seen: others too", empty.isSuspected(0), false);
    }

    /** Two bets of one kind, of which one is doubled and one split, are not three: neither at a high count nor at another. */
    private static void suspicionsOfDoublesAndSplits() {
        for (boolean isHigh : new boolean[] {true, false}) {
            ShoeHouse house = ShoeTest.watched();
            house.weigh(8, isHigh ? 0 : 1);
            for (int i = 0; i < 3; i++) {
                ShoeTest.betAtSeat(house, 0, isHigh ? 2 : 300);
            }
            house.weigh(8, isHigh ? 2 : 0);
            for (String recipe : new String[] {Cards.DOUBLE_18, Cards.EIGHTS}) {
                Expect.same("a high count ahead of it", house.trueCount() >= 2, isHigh);
                house.bet(2, 0, isHigh ? 300 : 2);
                Scene.lay(house, 1, recipe);
                house.deal();
                Expect.same("a high count in it", house.trueCount() >= 2, isHigh);
                if (recipe.equals(Cards.EIGHTS)) {
                    house.split(2);
                } else {
                    house.twice(2);
                }
                Scene.standAll(house);
                Expect.same("two bets", house.isSuspected(0), false);
            }
            Expect.same("a high count ahead of it", house.trueCount() >= 2, isHigh);
            house.bet(2, 0, isHigh ? 300 : 2);
            Expect.same("three bets", house.isSuspected(0), true);
        }
    }
}
