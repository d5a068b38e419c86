import java.util.ArrayList;
import java.util.List;
import java.util.function.Supplier;

/** The sentences of the promises 12 to 15 and 26 to 34: rules, the shoe, odds, counts, suspicions, what was broken. */
final class ShoeSentences {
    private static final String NO_RANGE = "Throws `IllegalArgumentException` if a number is out of range";
    private static final String IN_ROUND = "Throws `IllegalStateException` if a round goes on";
    private static final String FIRST_CARD = "Returns the rank of the first card then.";
    private static final Supplier<ShoeHouse> ROUND = () -> Scene.dealt(20, Cards.BUSTS);
    private static final Supplier<ShoeHouse> DECK = () -> laid(1);

    private ShoeSentences() {
    }

    static void run() {
        rule();
        lay();
        cut();
        cutRefused();
        riffle();
        riffleRefused();
        left();
        bustOver();
        bustUnder();
        dealerEnds();
        weigh();
        count();
        trueCount();
        isSuspected();
        broken();
    }

    private static ShoeHouse laid(int decks) {
        ShoeHouse house = Scene.withGuests(1, 500);
        house.lay(decks);
        return house;
    }

    private static void rule() {
        Doc.says(12, "Tells a rule of rounds.");
        Refusal.unsupported("no rule", () -> Scene.dealt(20, Cards.BUSTS), h -> h.surrender(0));
        ShoeHouse house = Scene.staked(20, Cards.BUSTS);
        house.rule('u', true);
        house.deal();
        Expect.same("by the rule", house.surrender(0), 10);
        Doc.says(12, "- `letter`: 'd', 'u', 's' or 'n'", "Throws `IllegalArgumentException` if there is no such letter");
        for (char letter : "dusn".toCharArray()) {
            Refusal.taken("rule " + letter, ShoeHouse::new, h -> h.rule(letter, true));
            for (char other : new char[] {(char) (letter - 1), (char) (letter + 1), (char) (letter - 32), (char) (letter + 256)}) {
                Refusal.argument("no rule " + (int) other, DECK, h -> h.rule(other, true));
            }
        }
        Refusal.argument("no rule 0", DECK, h -> h.rule((char) 0, false));
        Refusal.argument("no rule 65535", DECK, h -> h.rule((char) 65535, true));
        Doc.says(12, "- `is`: whether it holds", "Returns whether it held.");
        for (char letter : "dusn".toCharArray()) {
            ShoeHouse rules = new ShoeHouse();
            Expect.same("none at first", rules.rule(letter, false), false);
            Expect.same("not yet", rules.rule(letter, true), false);
            Expect.same("it held", rules.rule(letter, true), true);
            Expect.same("it held", rules.rule(letter, false), true);
            Expect.same("no more", rules.rule(letter, false), false);
        }
        Doc.says(12, IN_ROUND);
        Refusal.state("a round", ROUND, h -> h.rule('d', true));
        ShoeHouse over = ROUND.get();
        over.stand(0);
        Refusal.taken("the round is over", () -> over, h -> h.rule('d', true));
        Doc.order(12, Doc.ARGUMENT, Doc.STATE);
        Refusal.argument("a round, no rule", ROUND, h -> h.rule('x', true));
    }

    private static void lay() {
        Doc.says(13, "Lays the shoe.");
        ShoeHouse house = new ShoeHouse();
        house.lay(1);
        Expect.same("aces ahead", house.cut(1), 1);
        Expect.same("left", house.left(1), 4);
        Doc.says(13, "- `decks`: 1 or 2");
        Refusal.arguments(ShoeHouse::new, 1, 2, ShoeHouse::lay);
        Refusal.arguments(DECK, 1, 2, ShoeHouse::lay);
        Doc.says(13, "Returns the number of cards.");
        Expect.same("one deck", house.lay(1), 52);
        Expect.same("two decks", house.lay(2), 104);
        Expect.same("the empty one", Scene.withCards(0).lay(1), 52);
        Doc.says(13, NO_RANGE);
        Refusal.argument("0", DECK, h -> h.lay(0));
        Refusal.argument("3", DECK, h -> h.lay(3));
        Doc.says(13, IN_ROUND);
        Refusal.state("a round", ROUND, h -> h.lay(1));
        Refusal.state("a round, two decks", ROUND, h -> h.lay(2));
        ShoeHouse over = ROUND.get();
        over.stand(0);
        Expect.same("the round is over", over.lay(1), 52);
        Doc.order(13, Doc.ARGUMENT, Doc.STATE);
        Refusal.argument("a round, 0", ROUND, h -> h.lay(0));
        Refusal.argument("a round, 3", ROUND, h -> h.lay(3));
    }

    private static void cut() {
        Doc.says(14, "Cuts the shoe.");
        ShoeHouse house = laid(1);
        house.cut(20);
        List<Integer> due = ShoeTest.cutBy(ShoeTest.laid(1), 20);
        Expect.same("order", ShoeTest.order(house, 52).equals(due), true);
        Doc.says(14, "- `cards`: 1 or more, fewer than there are");
        Refusal.arguments(DECK, 1, 51, ShoeHouse::cut);
        Refusal.arguments(() -> laid(2), 1, 103, ShoeHouse::cut);
        Refusal.arguments(() -> Scene.withCards(2), 1, 1, ShoeHouse::cut);
        Doc.says(14, FIRST_CARD);
        Expect.same("one", laid(1).cut(1), 1);
        Expect.same("all aces", laid(1).cut(4), 2);
        Expect.same("up to the last", laid(1).cut(51), 10);
        Expect.same("two decks", laid(2).cut(8), 2);
        Expect.same("two decks, up to the last", laid(2).cut(103), 10);
        ShoeHouse two = Scene.withCards(2);
        int first = two.cut(1);
        int other = two.cut(1);
        Expect.same("two cards", two.cut(1), first);
        Expect.same("the other one", two.cut(1), other);
        Expect.same("both are left", two.left(first) > 0 && two.left(other) > 0, true);
    }

    private static void cutRefused() {
        Doc.says(14, "Throws `IllegalArgumentException` if there are not more cards than that, or it is below 1");
        Refusal.argument("not laid, 1", ShoeHouse::new, h -> h.cut(1));
        Refusal.argument("not laid, 0", ShoeHouse::new, h -> h.cut(0));
        Refusal.argument("no card, 1", () -> Scene.withCards(0), h -> h.cut(1));
        Refusal.argument("one card, 1", () -> Scene.withCards(1), h -> h.cut(1));
        Refusal.argument("two cards, 2", () -> Scene.withCards(2), h -> h.cut(2));
        Refusal.argument("all cards", DECK, h -> h.cut(52));
        Refusal.argument("0", DECK, h -> h.cut(0));
        Refusal.argument("-1", DECK, h -> h.cut(-1));
        ShoeHouse over = ROUND.get();
        over.stand(0);
        int left = Scene.cardsLeft(over);
        Expect.same("five were dealt", left, 47);
        Expect.argument(over, "what was dealt is not cut", () -> over.cut(47));
        Refusal.taken("46", () -> over, h -> h.cut(46));
        Doc.says(14, IN_ROUND);
        Refusal.state("a round", ROUND, h -> h.cut(1));
        Refusal.state("a round, all but one", ROUND, h -> h.cut(47));
        Doc.order(14, Doc.ARGUMENT, Doc.STATE);
        Refusal.argument("a round, 0", ROUND, h -> h.cut(0));
        Refusal.argument("a round, all 48", ROUND, h -> h.cut(48));
        Refusal.argument("a round, no card", Scene::withoutCards, h -> h.cut(1));
    }

    /** Cuts and riffles of shoes of all kinds of sizes, odd and even ones. */
    private static List<Supplier<ShoeHouse>> shoes() {
        List<Supplier<ShoeHouse>> shoes = new ArrayList<>();
        shoes.add(DECK);
        shoes.add(() -> laid(2));
        shoes.add(() -> Scene.withCards(2));
        for (int round = 1; round < 5; round++) {
            String rounds = "1231".substring(0, round);
            shoes.add(() -> {
                ShoeHouse house = laid(2);
                Scene.standRounds(house, rounds);
                return house;
            });
        }
        return shoes;
    }

    private static void riffle() {
        Doc.says(15, "Riffles the shoe.", "- `isOut`: whether the first half, which has a card more of an odd number, is first; "
            + "otherwise the other one, which has that card more then", FIRST_CARD);
        int odd = 0;
        for (Supplier<ShoeHouse> shoe : shoes()) {
            int size = Scene.cardsLeft(shoe.get());
            odd += size % 2;
            for (boolean isOut : new boolean[] {true, false}) {
                ShoeHouse house = shoe.get();
                List<Integer> due = ShoeTest.riffledBy(ShoeTest.order(house, size), isOut);
                Expect.same("the first of " + size, house.riffle(isOut), due.get(0));
                Expect.same("the order of " + size, ShoeTest.order(house, size).equals(due), true);
            }
        }
        Expect.same("odd and even sizes", odd > 0 && odd < shoes().size(), true);
        for (boolean isOut : new boolean[] {true, false}) {
            ShoeHouse one = Scene.withCards(1);
            int rank = 0;
            for (int asked = 1; asked <= 10; asked++) {
                rank += asked * one.left(asked);
            }
            Expect.same("one card", one.riffle(isOut), rank);
            Expect.same("it stays", one.riffle(!isOut), rank);
            Expect.same("sound", one.isSound(), true);
        }
        Expect.same("aces of the first half", laid(1).riffle(true), 1);
        Expect.same("behind 26 cards, a 7", laid(1).riffle(false), 7);
    }

    private static void riffleRefused() {
        Doc.says(15, "Throws `UnsupportedOperationException` if it has no cards");
        for (boolean isOut : new boolean[] {true, false}) {
            Refusal.unsupported("not laid", ShoeHouse::new, h -> h.riffle(isOut));
            Refusal.unsupported("no card", () -> Scene.withCards(0), h -> h.riffle(isOut));
            Refusal.taken("one card", () -> Scene.withCards(1), h -> h.riffle(isOut));
        }
        Doc.says(15, IN_ROUND);
        Refusal.state("a round", ROUND, h -> h.riffle(true));
        Refusal.state("a round", ROUND, h -> h.riffle(false));
        Refusal.state("a round, one card", Scene::withLastCard, h -> h.riffle(true));
        Doc.order(15, Doc.UNSUPPORTED, Doc.STATE);
        Refusal.unsupported("a round, no card", Scene::withoutCards, h -> h.riffle(true));
        Refusal.unsupported("a round, no card", Scene::withoutCards, h -> h.riffle(false));
    }

    private static void left() {
        Doc.says(26, "Returns how many cards of a rank were not seen.", "Returns the number of cards.");
        for (int rank = 1; rank <= 10; rank++) {
            Expect.same("not laid", new ShoeHouse().left(rank), 0);
            Expect.same("one deck", laid(1).left(rank), rank == 10 ? 16 : 4);
            Expect.same("two decks", laid(2).left(rank), rank == 10 ? 32 : 8);
            Expect.same("all were seen", Scene.withCards(0).left(rank), 0);
            Expect.same("tens alone", Scene.withTens().left(rank), rank == 10 ? 32 : 0);
            Expect.same("but the hidden one", Scene.withoutCards().left(rank), rank == 3 ? 1 : 0);
        }
        Doc.says(26, "- `rank`: 1 to 10");
        Refusal.arguments(DECK, 1, 10, ShoeHouse::left);
        Refusal.arguments(ShoeHouse::new, 1, 10, ShoeHouse::left);
        Doc.says(26, NO_RANGE);
        Refusal.argument("0", DECK, h -> h.left(0));
        Refusal.argument("11", DECK, h -> h.left(11));
    }

    private static void bustOver() {
        Doc.says(27, "Returns the upper number of the chance that one card more brings a hard hand above 21, "
            + "by what is left, in lowest terms.", "Returns the number.");
        int[] over = {0, 0, 0, 0, 0, 0, 0, 0, 4, 5, 6, 7, 8, 9, 10, 11, 12, 1};
        for (int value = 4; value <= 21; value++) {
            Expect.same("a deck, " + value, laid(1).bustOver(value), over[value - 4]);
            Expect.same("two decks, " + value, laid(2).bustOver(value), over[value - 4]);
            Expect.same("tens, " + value, Scene.withTens().bustOver(value), value > 11 ? 1 : 0);
            Expect.same("a 3, " + value, Scene.withoutCards().bustOver(value), value > 18 ? 1 : 0);
        }
        Expect.same("15 tens of 49", ROUND.get().bustOver(12), 15);
        Doc.says(27, "- `value`: a hard value, 4 to 21");
        Refusal.arguments(DECK, 4, 21, ShoeHouse::bustOver);
        Doc.says(27, NO_RANGE);
        Refusal.argument("3", DECK, h -> h.bustOver(3));
        Refusal.argument("22", DECK, h -> h.bustOver(22));
        Doc.says(27, "Throws `ArithmeticException` if no cards are left");
        Refusal.arithmetic("not laid", ShoeHouse::new, h -> h.bustOver(4));
        Refusal.arithmetic("not laid", ShoeHouse::new, h -> h.bustOver(21));
        Refusal.arithmetic("all were seen", () -> Scene.withCards(0), h -> h.bustOver(12));
        Refusal.taken("one card", () -> Scene.withCards(1), h -> h.bustOver(12));
        Refusal.taken("the hidden one", Scene::withoutCards, h -> h.bustOver(12));
        Doc.order(27, Doc.ARGUMENT, Doc.ARITHMETIC);
        Refusal.argument("not laid, 3", ShoeHouse::new, h -> h.bustOver(3));
        Refusal.argument("not laid, 22", ShoeHouse::new, h -> h.bustOver(22));
    }

    private static void bustUnder() {
        Doc.says(28, "Returns its lower number.", "Returns the number.");
        for (int value = 4; value <= 21; value++) {
            int due = value < 12 || value == 21 ? 1 : 13;
            Expect.same("a deck, " + value, laid(1).bustUnder(value), due);
            Expect.same("two decks, " + value, laid(2).bustUnder(value), due);
            Expect.same("tens, " + value, Scene.withTens().bustUnder(value), 1);
            Expect.same("a 3, " + value, Scene.withoutCards().bustUnder(value), 1);
        }
        Expect.same("15 tens of 49", ROUND.get().bustUnder(12), 49);
        Doc.says(28, "- `value`: a hard value, 4 to 21");
        Refusal.arguments(DECK, 4, 21, ShoeHouse::bustUnder);
        Doc.says(28, NO_RANGE);
        Refusal.argument("3", DECK, h -> h.bustUnder(3));
        Refusal.argument("22", DECK, h -> h.bustUnder(22));
        Doc.says(28, "Throws `ArithmeticException` if no cards are left");
        Refusal.arithmetic("not laid", ShoeHouse::new, h -> h.bustUnder(4));
        Refusal.arithmetic("all were seen", () -> Scene.withCards(0), h -> h.bustUnder(21));
        Refusal.taken("one card", () -> Scene.withCards(1), h -> h.bustUnder(12));
        Doc.order(28, Doc.ARGUMENT, Doc.ARITHMETIC);
        Refusal.argument("not laid, 3", ShoeHouse::new, h -> h.bustUnder(3));
        Refusal.argument("not laid, 22", ShoeHouse::new, h -> h.bustUnder(22));
    }

    private static void dealerEnds() {
        Doc.says(29, "Returns the chance that the dealer ends at a value, by what is left, by the rules that hold.",
            "Returns the chance.");
        for (String recipe : new String[] {Cards.BUSTS, Cards.SOFT_SIX, Cards.SOFT_ACE, Cards.EIGHTS}) {
            for (boolean isSoft : new boolean[] {false, true}) {
                ShoeHouse house = Scene.staked(20, recipe);
                house.rule('s', isSoft);
                house.deal();
                OddsTest.compare(house, isSoft);
                house.hit(0);
                if (Scene.isOn(house)) {
                    OddsTest.compare(house, isSoft);
                }
            }
        }
        Doc.says(29, "- `value`: 17 to 21, or 22 for all above");
        Refusal.arguments(ROUND, 17, 22, ShoeHouse::dealerEnds);
        ShoeHouse tens = Scene.withTens();
        tens.bet(0, 0, 2);
        tens.deal();
        for (int value = 17; value <= 22; value++) {
            Expect.same("tens end at 20, not " + value, tens.dealerEnds(value), value == 20 ? 1.0 : 0.0);
        }
        ShoeHouse all = ROUND.get();
        double sum = 0.0;
        for (int value = 17; value <= 22; value++) {
            sum += all.dealerEnds(value);
        }
        Expect.same("somewhere it ends", sum > 0.999999 && sum < 1.000001, true);
        Doc.says(29, NO_RANGE);
        Refusal.argument("16", ROUND, h -> h.dealerEnds(16));
        Refusal.argument("23", ROUND, h -> h.dealerEnds(23));
        Refusal.argument("26", ROUND, h -> h.dealerEnds(26));
        Doc.says(29, "Throws `IllegalStateException` if no round goes on");
        Refusal.state("a new house", ShoeHouse::new, h -> h.dealerEnds(17));
        Refusal.state("a stake", () -> Scene.staked(20, Cards.BUSTS), h -> h.dealerEnds(22));
        ShoeHouse over = ROUND.get();
        over.stand(0);
        Expect.state(over, "the round is over", () -> over.dealerEnds(20));
        Doc.order(29, Doc.ARGUMENT, Doc.STATE);
        Refusal.argument("no round, 16", DECK, h -> h.dealerEnds(16));
        Refusal.argument("no round, 23", DECK, h -> h.dealerEnds(23));
    }

    private static void weigh() {
        Doc.says(30, "Tells a weight.");
        ShoeHouse house = ROUND.get();
        house.weigh(6, 3);
        Expect.same("one 6 was seen", house.count(), 3);
        house.weigh(10, -1);
        Expect.same("and a 10", house.count(), 2);
        Doc.says(30, "- `rank`: 1 to 10");
        Refusal.arguments(DECK, 1, 10, (h, rank) -> h.weigh(rank, 2));
        Doc.says(30, "- `weight`: -3 to 3");
        Refusal.arguments(DECK, -3, 3, (h, weight) -> h.weigh(1, weight));
        Refusal.arguments(DECK, -3, 3, (h, weight) -> h.weigh(10, weight));
        Doc.says(30, "Returns the weight before.");
        for (int rank = 1; rank <= 10; rank++) {
            ShoeHouse told = new ShoeHouse();
            Expect.same("none", told.weigh(rank, 3), 0);
            Expect.same("3", told.weigh(rank, -3), 3);
            Expect.same("-3", told.weigh(rank, 0), -3);
            Expect.same("0", told.weigh(rank, 1), 0);
        }
        Doc.says(30, NO_RANGE);
        Refusal.argument("rank 0", DECK, h -> h.weigh(0, 1));
        Refusal.argument("rank 11", DECK, h -> h.weigh(11, 1));
        Refusal.argument("weight -4", DECK, h -> h.weigh(5, -4));
        Refusal.argument("weight 4", DECK, h -> h.weigh(5, 4));
        Refusal.argument("both", DECK, h -> h.weigh(11, 4));
    }

    private static void count() {
        Doc.says(31, "Returns the count.");
        ShoeHouse house = Scene.withCards(0);
        Expect.same("no weights", house.count(), 0);
        for (int rank = 1; rank <= 10; rank++) {
            house.weigh(rank, 3);
        }
        Expect.same("all cards", house.count(), 312);
        for (int rank = 1; rank <= 10; rank++) {
            house.weigh(rank, -3);
        }
        Expect.same("all cards", house.count(), -312);
        house.lay(2);
        Expect.same("none was seen", house.count(), 0);
        Expect.same("not laid", new ShoeHouse().count(), 0);
    }

    private static void trueCount() {
        Doc.says(32, "Returns the true count.");
        ShoeHouse house = ROUND.get();
        house.weigh(8, 1);
        Expect.same("52 by 49", house.trueCount(), 1);
        house.weigh(8, -2);
        Expect.same("-104 by 49", house.trueCount(), -2);
        ShoeHouse last = Scene.withoutCards();
        last.weigh(1, 3);
        Expect.same("8 aces by one card", last.trueCount(), 8 * 3 * 52);
        Doc.says(32, "Throws `ArithmeticException` if all cards were seen");
        Refusal.arithmetic("not laid", ShoeHouse::new, ShoeHouse::trueCount);
        Refusal.arithmetic("all were seen", () -> Scene.withCards(0), ShoeHouse::trueCount);
        Refusal.taken("but one", () -> Scene.withCards(1), ShoeHouse::trueCount);
        Refusal.taken("none was seen", DECK, ShoeHouse::trueCount);
    }

    /** Bets of the guests at a true count of 2, then of 0. */
    private static ShoeHouse watched(int[] high, int[] others) {
        ShoeHouse house = ShoeTest.watched();
        ShoeTest.tellHigh(house);
        for (int chips : high) {
            ShoeTest.betAtSeat(house, 0, chips);
        }
        house.weigh(8, 0);
        for (int chips : others) {
            ShoeTest.betAtSeat(house, 0, chips);
        }
        return house;
    }

    private static void isSuspected() {
        Doc.says(33, "Returns whether a guest is suspected.", "Returns true if so.");
        Expect.same("three times", watched(new int[] {30, 30, 30}, new int[] {10, 10, 10}).isSuspected(0), true);
        Expect.same("a chip less", watched(new int[] {30, 30, 29}, new int[] {10, 10, 10}).isSuspected(0), false);
        Expect.same("a chip more there", watched(new int[] {30, 30, 30}, new int[] {10, 10, 11}).isSuspected(0), false);
        Expect.same("means are not cut", watched(new int[] {30, 30, 31}, new int[] {10, 10, 11}).isSuspected(0), false);
        Expect.same("31 by 10 1/3", watched(new int[] {31, 31, 31}, new int[] {10, 10, 11}).isSuspected(0), true);
        Expect.same("no bets", ShoeTest.watched().isSuspected(0), false);
        Doc.says(33, "- `guest`: the guest");
        Refusal.indexes(() -> Scene.withGuests(3, 9), 0, 2, ShoeHouse::isSuspected);
        Refusal.indexes(() -> Scene.withGuests(8, 9), 0, 7, ShoeHouse::isSuspected);
        ShoeHouse house = watched(new int[] {30, 30, 30}, new int[] {2, 2, 2});
        Expect.same("not the other one", house.isSuspected(1), false);
        Doc.says(33, "Throws `IndexOutOfBoundsException` if there is no such guest");
        Refusal.index("no guests", ShoeHouse::new, h -> h.isSuspected(0));
        Refusal.index("a guest too many", () -> Scene.withGuests(3, 9), h -> h.isSuspected(3));
        Refusal.index("-1", () -> Scene.withGuests(3, 9), h -> h.isSuspected(-1));
    }

    private static void broken() {
        Doc.says(34, "Returns what was broken.", "Returns the tenths of chips.");
        Expect.same("nothing", new ShoeHouse().broken(), 0);
        for (int stake = 2; stake <= 16; stake++) {
            Expect.same("half of " + stake, Scene.dealt(stake, Cards.SEAT_NATURAL).broken(), 15 * stake % 10);
            ShoeHouse house = Scene.staked(stake, Cards.SEAT_NATURAL);
            house.rule('n', true);
            house.deal();
            Expect.same("fifths of " + stake, house.broken(), 12 * stake % 10);
            house.bet(0, 0, stake);
            Scene.lay(house, 1, Cards.SEAT_NATURAL);
            house.deal();
            Expect.same("both times", house.broken(), 2 * (12 * stake % 10));
        }
    }
}
