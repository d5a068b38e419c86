/** Promises 12 and 16 to 25, 34: rules, bets, deals, and how hands play and are settled. */
public final class RoundTest {
    private RoundTest() {
    }

    public static void main(String[] args) {
        rules();
        betsThatAreRefused();
        betsInARound();
        dealing();
        dealingToThree();
        naturalPaid();
        naturalBySixToFive();
        evenNatural();
        dealersNatural();
        dealersNaturalAgainstTwo();
        hitting();
        busting();
        winning();
        softSeventeen();
        evenHands();
        turns();
        doubling();
        doublingRefused();
        splitting();
        splittingByTheRule();
        splittingAgain();
        splittingAces();
        splittingRefused();
        surrendering();
        orderOfSettling();
        barWhileTheHandPlays();
        barWhileAnotherPlays();
        barOfSplitsAndLostHands();
        barOfNaturals();
        handsTakenAwayByABar();
        barOfOneHandOfASplit();
        barOfSettledHands();
        emptyShoe();
        emptyShoeAndTwoCards();
        lastCards();
        dealerTakesTheLastCard();
        cardsToDeal();
        dealerAtTwentyTwo();
        layForgets();
        seatsWithoutHands();
        handsOfTheLastRound();
        Expect.end(RoundTest.class);
    }

    private static void dealerHas(ShoeHouse house, String cards) {
        Expect.same("the dealer has " + Snapshot.dealer(house) + "due is " + cards, Snapshot.dealer(house).equals(cards), true);
    }

    private static void handHas(ShoeHouse house, int seat, int hand, String cards) {
        String got = Snapshot.cards(house, seat, hand);
        Expect.same("the hand has " + got + "due is " + cards, got.equals(cards), true);
    }

    private static void isOver(ShoeHouse house) {
        Expect.state(house, "the round is over", house::turn);
        Expect.same("sound", house.isSound(), true);
    }

    private static void rules() {
        ShoeHouse house = Scene.staked(10, Cards.HIT_TO_21);
        for (char letter : new char[] {'d', 'u', 's', 'n'}) {
            Expect.same("at first", house.rule(letter, true), false);
            Expect.same("told", house.rule(letter, true), true);
            Expect.same("told", house.rule(letter, false), true);
            Expect.same("told otherwise", house.rule(letter, false), false);
        }
        house.rule('d', true);
        Expect.same("each rule by itself", house.rule('u', false), false);
        Expect.same("each rule by itself", house.rule('s', false), false);
        Expect.same("each rule by itself", house.rule('n', false), false);
        for (char letter : new char[] {'D', 'a', 'c', 'e', 'm', 'o', 'r', 't', 'v', (char) 0, (char) 65535}) {
            Expect.argument(house, "no rule", () -> house.rule(letter, true));
        }
        house.deal();
        Expect.state(house, "a round goes on", () -> house.rule('d', true));
        Expect.argument(house, "a round goes on, no rule", () -> house.rule('x', true));
        house.stand(0);
        Expect.same("the rule as before", house.rule('d', true), true);
    }

    private static void betsThatAreRefused() {
        ShoeHouse house = Scene.withGuests(2, 1500);
        Expect.index(house, "seat -1", () -> house.bet(-1, 0, 5));
        Expect.index(house, "seat 3", () -> house.bet(3, 0, 0));
        Expect.index(house, "guest 2", () -> house.bet(0, 2, 5));
        Expect.index(house, "guest -1", () -> house.bet(0, -1, 5000));
        Expect.argument(house, "1 chip", () -> house.bet(0, 0, 1));
        Expect.argument(house, "-2 chips", () -> house.bet(0, 0, -2));
        Expect.argument(house, "1001 chips", () -> house.bet(0, 0, 1001));
        Expect.same("1000 chips", house.bet(0, 0, 1000), 500);
        Expect.argument(house, "the seat has a stake, 1 chip", () -> house.bet(0, 1, 1));
        Expect.unsupported(house, "the seat has a stake", () -> house.bet(0, 1, 2));
        Expect.unsupported(house, "not so many chips", () -> house.bet(1, 0, 501));
        Expect.same("all chips, another seat", house.bet(1, 0, 500), 0);
        Expect.same("staked", house.staked(0), 1500);
        Expect.same("2 chips", house.bet(2, 1, 2), 1498);
        Expect.same("on the table", house.vault(), 97000);
        Expect.same("not in the tray", house.tray(0), 0);
        Expect.same("sound", house.isSound(), true);
    }

    private static void betsInARound() {
        ShoeHouse house = Scene.withGuests(2, 1000);
        house.bet(0, 0, 20);
        house.bet(1, 0, 20);
        Scene.lay(house, 1, "37 o o");
        house.rule('u', true);
        house.deal();
        Expect.state(house, "another seat", () -> house.bet(2, 1, 20));
        Expect.unsupported(house, "a seat with a stake", () -> house.bet(0, 1, 20));
        Expect.unsupported(house, "not so many chips", () -> house.bet(2, 0, 961));
        Expect.same("surrender", house.surrender(0), 10);
        Expect.unsupported(house, "a settled seat", () -> house.bet(0, 1, 20));
        Expect.same("the round is over", house.stand(1), -1);
        Expect.same("both seats are free", house.bet(0, 1, 20), 980);
        Expect.same("both seats are free", house.bet(1, 1, 20), 960);
    }

    private static void dealing() {
        ShoeHouse house = Scene.withGuests(1, 1000);
        Expect.unsupported(house, "no shoe, no stake", house::deal);
        house.bet(1, 0, 5);
        Expect.unsupported(house, "no shoe", house::deal);
        Scene.lay(house, 1, Cards.HIT_TO_21);
        Expect.same("the seen card", house.deal(), 10);
        Expect.state(house, "a round goes on", house::deal);
        handHas(house, 1, 0, "5 6 ");
        dealerHas(house, "10 ");
        Expect.same("the hidden one is left", house.left(7), 4);
        Expect.same("the seen one is not", house.left(10), 15);
        Expect.index(house, "another seat", () -> house.cardAt(0, 0, 0));
        Expect.none(house, "no third card", () -> house.cardAt(1, 0, 2));
        Expect.none(house, "place -1", () -> house.cardAt(1, 0, -1));
        Expect.index(house, "no second hand", () -> house.cardAt(1, 1, 0));
        Expect.index(house, "no hand 2", () -> house.cardAt(1, 2, 0));
        Expect.index(house, "no hand -1", () -> house.cardAt(1, -1, 0));
        Expect.index(house, "no seat 3", () -> house.cardAt(3, 0, 0));
        Expect.index(house, "no seat -1", () -> house.cardAt(-1, 0, 0));
        Expect.none(house, "dealer -1", () -> house.dealerAt(-1));
        Expect.none(house, "dealer 2", () -> house.dealerAt(2));
        house.stand(1);
        dealerHas(house, "10 7 ");
        Expect.same("shown", house.left(7), 3);
        Expect.unsupported(house, "no stake any more", house::deal);
        playDown(house, 31);
    }

    /** Rounds of one seat until there are fewer than 30 cards. */
    private static void playDown(ShoeHouse house, int enough) {
        int rounds = 0;
        while (Scene.cardsLeft(house) > enough && rounds < 12) {
            house.bet(0, 0, 2);
            house.deal();
            Scene.standAll(house);
            rounds++;
        }
        int cards = Scene.cardsLeft(house);
        house.bet(0, 0, 2);
        if (cards >= 30) {
            house.deal();
            Expect.unsupported(house, "fewer than 30 in a round", house::deal);
            Scene.standAll(house);
            house.bet(0, 0, 2);
        }
        Expect.unsupported(house, "fewer than 30", house::deal);
    }

    private static void dealingToThree() {
        ShoeHouse house = Scene.withGuests(2, 100);
        house.bet(2, 0, 5);
        house.bet(0, 1, 5);
        house.bet(1, 0, 5);
        Scene.lay(house, 1, "3");
        Expect.same("the seen card", house.deal(), 2);
        handHas(house, 0, 0, "1 2 ");
        handHas(house, 1, 0, "2 3 ");
        handHas(house, 2, 0, "2 3 ");
        Expect.same("turn", house.turn(), 0);
        Expect.same("stand", house.stand(0), 1);
        Expect.same("stand", house.stand(1), 2);
        Expect.same("stand", house.stand(2), -1);
        dealerHas(house, "2 3 3 4 4 4 ");
        Expect.same("20 wins", house.tray(0), 15);
        isOver(house);
    }

    private static void naturalPaid() {
        ShoeHouse house = Scene.staked(11, Cards.SEAT_NATURAL);
        Expect.same("the seen card", house.deal(), 9);
        isOver(house);
        Expect.same("3 by 2, cut", house.chips(0), 1016);
        Expect.same("half a chip is broken", house.broken(), 5);
        Expect.same("no tray, so the vault pays", house.vault(), 99000 - 16);
        Expect.same("win", house.win(0), -16);
        dealerHas(house, "9 5 ");
        handHas(house, 0, 0, "1 10 ");
        Expect.same("the hidden card is seen", house.left(5), 3);
        house.bet(2, 0, 13);
        Scene.lay(house, 1, Cards.SEAT_NATURAL);
        house.deal();
        Expect.same("broken in all", house.broken(), 10);
        house.bet(1, 0, 10);
        Scene.lay(house, 1, Cards.SEAT_NATURAL);
        house.deal();
        Expect.same("nothing is broken", house.broken(), 10);
        Expect.same("16, 19, 15", house.chips(0), 1050);
    }

    private static void naturalBySixToFive() {
        int[] stakes = {10, 11, 12, 13, 14};
        int[] paid = {12, 13, 14, 15, 16};
        int[] broken = {0, 2, 4, 6, 8};
        for (int i = 0; i < stakes.length; i++) {
            ShoeHouse house = Scene.staked(stakes[i], Cards.SEAT_NATURAL);
            house.rule('n', true);
            house.fill(0, 10);
            house.deal();
            Expect.same("6 by 5, cut", house.chips(0), 1000 + paid[i]);
            Expect.same("broken", house.broken(), broken[i]);
            Expect.same("the tray pays first", house.tray(0), 0);
            Expect.same("then the vault", house.vault(), 99000 - paid[i]);
            isOver(house);
        }
    }

    private static void evenNatural() {
        ShoeHouse house = Scene.staked(11, Cards.BOTH_NATURAL);
        Expect.same("the seen card", house.deal(), 1);
        Expect.same("the stake comes back", house.chips(0), 1000);
        Expect.same("nothing is broken", house.broken(), 0);
        Expect.same("the house has nothing", house.tray(0), 0);
        dealerHas(house, "1 10 ");
        isOver(house);
    }

    private static void dealersNatural() {
        ShoeHouse house = Scene.staked(10, Cards.TEN_AND_ACE);
        Expect.same("the seen card", house.deal(), 10);
        Expect.same("lost", house.chips(0), 990);
        Expect.same("tray", house.tray(0), 10);
        dealerHas(house, "10 1 ");
        isOver(house);
        ShoeHouse other = Scene.staked(10, Cards.ACE_AND_TEN);
        Expect.same("the seen card", other.deal(), 1);
        Expect.same("lost", other.chips(0), 990);
        dealerHas(other, "1 10 ");
        isOver(other);
    }

    private static void dealersNaturalAgainstTwo() {
        ShoeHouse house = Scene.dealtToTwo("o 27 o o i i i o o o i 24");
        handHas(house, 0, 0, "10 5 ");
        handHas(house, 2, 0, "10 10 ");
        dealerHas(house, "1 10 ");
        Expect.same("both are lost", house.tray(0), 40);
        isOver(house);
        Expect.same("the seats are free", house.bet(0, 1, 3), 977);
    }

    private static void hitting() {
        ShoeHouse house = Scene.withGuests(1, 1000);
        Expect.index(house, "seat 3", () -> house.hit(3));
        Expect.index(house, "seat -1", () -> house.hit(-1));
        Expect.state(house, "no round", () -> house.hit(0));
        house.bet(1, 0, 20);
        Scene.lay(house, 1, Cards.HIT_TO_21);
        house.deal();
        Expect.index(house, "seat 3", () -> house.hit(3));
        Expect.unsupported(house, "not the turn", () -> house.hit(0));
        Expect.unsupported(house, "not the turn", () -> house.hit(2));
        Expect.same("21", house.hit(1), 21);
        handHas(house, 1, 0, "5 6 10 ");
        dealerHas(house, "10 7 ");
        isOver(house);
        Expect.same("it stood at once and won", house.chips(0), 1020);
        ShoeHouse soft = Scene.dealt(20, Cards.ACES);
        Expect.same("soft 12 and 10", soft.hit(0), 12);
        Expect.same("22", soft.hit(0), 22);
        Expect.same("lost", soft.tray(0), 20);
        isOver(soft);
    }

    private static void busting() {
        ShoeHouse house = Scene.dealt(20, Cards.BUSTS);
        Expect.same("28", house.hit(0), 28);
        Expect.same("lost", house.chips(0), 980);
        Expect.same("tray", house.tray(0), 20);
        dealerHas(house, "6 10 ");
        isOver(house);
        ShoeHouse two = Scene.dealtToTwo("i 48 i i");
        Expect.same("15 and 8", two.hit(0), 23);
        Expect.same("lost at once", two.tray(0), 20);
        Expect.same("the next seat", two.turn(), 2);
        Expect.state(two, "the round goes on", two::deal);
        Expect.unsupported(two, "the seat had a stake", () -> two.bet(0, 0, 5));
        Expect.same("over", two.stand(2), -1);
        isOver(two);
    }

    private static void winning() {
        ShoeHouse house = Scene.dealt(20, Cards.BUSTS);
        Expect.same("over", house.stand(0), -1);
        dealerHas(house, "6 10 10 ");
        Expect.same("the dealer is above 21", house.chips(0), 1020);
        ShoeHouse soft = Scene.dealt(20, Cards.SOFT_ACE);
        soft.stand(0);
        dealerHas(soft, "1 6 ");
        Expect.same("18 against 17", soft.chips(0), 1020);
        Expect.same("the vault paid", soft.win(0), -20);
        isOver(soft);
    }

    private static void softSeventeen() {
        ShoeHouse house = Scene.dealt(20, Cards.SOFT_SIX);
        house.stand(0);
        dealerHas(house, "6 1 ");
        Expect.same("17 and 17", house.chips(0), 1000);
        ShoeHouse draws = Scene.staked(20, Cards.SOFT_SIX);
        draws.rule('s', true);
        draws.deal();
        draws.stand(0);
        dealerHas(draws, "6 1 9 2 ");
        Expect.same("17 against 18", draws.chips(0), 980);
        ShoeHouse softTwenty = Scene.staked(20, Cards.SOFT_ACE);
        softTwenty.rule('s', true);
        softTwenty.deal();
        softTwenty.stand(0);
        dealerHas(softTwenty, "1 6 3 ");
        Expect.same("18 against 20", softTwenty.chips(0), 980);
        ShoeHouse hard = Scene.staked(20, Cards.HIT_TO_21);
        hard.rule('s', true);
        hard.deal();
        hard.stand(0);
        dealerHas(hard, "10 7 ");
    }

    private static void evenHands() {
        ShoeHouse house = Scene.dealt(20, Cards.EVEN_19);
        Expect.same("over", house.stand(0), -1);
        Expect.same("19 and 19", house.chips(0), 1000);
        Expect.same("nothing moves", house.tray(0), 0);
        Expect.same("nothing moves", house.vault(), 99000);
        isOver(house);
    }

    private static void turns() {
        ShoeHouse house = Scene.withGuests(1, 1000);
        Expect.index(house, "seat 3", () -> house.stand(3));
        Expect.index(house, "seat -1", () -> house.stand(-1));
        Expect.state(house, "no round", () -> house.stand(0));
        Expect.state(house, "no round", house::turn);
        ShoeHouse two = Scene.dealtToTwo("20 i i i");
        Expect.same("turn", two.turn(), 0);
        Expect.unsupported(two, "not the turn", () -> two.stand(2));
        Expect.unsupported(two, "no stake there", () -> two.stand(1));
        Expect.same("stand", two.stand(0), 2);
        Expect.same("turn", two.turn(), 2);
        Expect.unsupported(two, "not any more", () -> two.stand(0));
        Expect.same("stand", two.stand(2), -1);
        ShoeHouse natural = Scene.dealtToTwo("o o 11");
        Expect.same("a natural does not play", natural.stand(0), -1);
        Expect.same("it is paid, the other lost", natural.chips(1), 1030);
        Expect.same("lost", natural.chips(0), 980);
        ShoeHouse first = Scene.dealtToTwo("i i");
        Expect.same("the natural stood at once", first.turn(), 2);
        Expect.unsupported(first, "it does not play", () -> first.hit(0));
        first.stand(2);
        dealerHas(first, "4 7 4 1 10 ");
        Expect.same("3 by 2", first.chips(0), 1030);
        Expect.same("once", first.chips(1), 1020);
    }

    private static void doubling() {
        ShoeHouse house = Scene.dealt(20, Cards.DOUBLE_21);
        Expect.same("21", house.twice(0), 21);
        Expect.same("staked", house.staked(0), 40);
        dealerHas(house, "6 10 10 ");
        Expect.same("both stakes win", house.chips(0), 1040);
        isOver(house);
        ShoeHouse eighteen = Scene.dealt(20, Cards.DOUBLE_18);
        Expect.same("18", eighteen.twice(0), 18);
        dealerHas(eighteen, "8 9 ");
        Expect.same("it stands, and wins", eighteen.chips(0), 1040);
        isOver(eighteen);
        ShoeHouse lost = Scene.dealt(20, Cards.BUSTS);
        Expect.same("28", lost.twice(0), 28);
        Expect.same("both stakes are lost", lost.chips(0), 960);
        Expect.same("tray", lost.tray(0), 40);
        dealerHas(lost, "6 10 ");
        isOver(lost);
        ShoeHouse two = Scene.dealtToTwo("20 i i i");
        two.twice(0);
        Expect.same("the next seat plays", two.turn(), 2);
    }

    private static void doublingRefused() {
        ShoeHouse house = Scene.withGuests(1, 30);
        Expect.index(house, "seat 3", () -> house.twice(3));
        Expect.index(house, "seat -1", () -> house.twice(-1));
        Expect.state(house, "no round", () -> house.twice(0));
        house.bet(0, 0, 16);
        Scene.lay(house, 1, Cards.DOUBLE_18);
        house.deal();
        Expect.unsupported(house, "not the turn", () -> house.twice(1));
        Expect.unsupported(house, "14 chips are too few", () -> house.twice(0));
        house.buyIn(0, 2);
        house.limit(0, 31);
        Expect.unsupported(house, "above the limit", () -> house.twice(0));
        house.limit(0, 30);
        Expect.same("no round is over", house.turn(), 0);
        ShoeHouse enough = Scene.withGuests(1, 32);
        enough.limit(0, 32);
        enough.bet(0, 0, 16);
        Scene.lay(enough, 1, Cards.DOUBLE_18);
        enough.deal();
        Expect.same("just enough", enough.twice(0), 18);
        ShoeHouse three = Scene.dealt(20, Cards.ACES);
        three.hit(0);
        Expect.unsupported(three, "three cards", () -> three.twice(0));
        Expect.unsupported(three, "three cards", () -> three.split(0));
    }

    private static void splitting() {
        ShoeHouse house = Scene.dealt(20, Cards.EIGHTS);
        Expect.index(house, "not split yet", () -> house.cardAt(0, 1, 0));
        Expect.same("8 and 3", house.split(0), 11);
        handHas(house, 0, 0, "8 3 ");
        handHas(house, 0, 1, "8 9 ");
        Expect.index(house, "no third hand", () -> house.cardAt(0, 2, 0));
        Expect.same("staked", house.staked(0), 40);
        Expect.same("chips", house.chips(0), 960);
        Expect.same("the cards are seen", house.left(8), 2);
        Expect.unsupported(house, "it was split", () -> house.split(0));
        Expect.unsupported(house, "no rule to double", () -> house.twice(0));
        Expect.same("the first hand plays", house.hit(0), 21);
        Expect.same("the second one plays", house.turn(), 0);
        Expect.unsupported(house, "no rule to double", () -> house.twice(0));
        Expect.same("over", house.stand(0), -1);
        dealerHas(house, "6 10 9 ");
        Expect.same("both win", house.chips(0), 1040);
        handHas(house, 0, 1, "8 9 ");
        isOver(house);
        ShoeHouse lost = Scene.dealt(20, Cards.EIGHTS);
        lost.split(0);
        Expect.same("the second hand plays then", lost.stand(0), 0);
        Expect.same("17 and 10", lost.hit(0), 27);
        dealerHas(lost, "6 10 9 ");
        Expect.same("one lost, one won", lost.chips(0), 1000);
        handHas(lost, 0, 1, "8 9 10 ");
    }

    private static void splittingByTheRule() {
        ShoeHouse house = Scene.staked(20, Cards.EIGHTS);
        house.rule('d', true);
        house.rule('u', true);
        house.deal();
        house.split(0);
        Expect.unsupported(house, "a split is not surrendered", () -> house.surrender(0));
        Expect.same("11 and 10", house.twice(0), 21);
        Expect.same("staked", house.staked(0), 60);
        Expect.same("the second hand plays", house.turn(), 0);
        Expect.same("17 and 9", house.twice(0), 26);
        Expect.same("staked", house.staked(0), 80);
        dealerHas(house, "6 10 10 ");
        Expect.same("40 lost, 40 won", house.chips(0), 1000);
        Expect.same("the lost ones pay", house.vault(), 99000);
        Expect.same("tray", house.tray(0), 0);
        isOver(house);
    }

    /** Two rounds with splits from one shoe: the hands of the first are not those of the second. */
    private static void splittingAgain() {
        ShoeHouse house = Scene.withGuests(1, 1000);
        house.lay(1);
        house.cut(36);
        for (int i = 0; i < 2; i++) {
            house.bet(0, 0, 20);
            house.deal();
            Expect.same("two tens", house.split(0), 20);
            handHas(house, 0, 0, "10 10 ");
            handHas(house, 0, 1, "10 10 ");
            Scene.standAll(house);
        }
        Expect.same("even", house.chips(0), 1000);
        house.bet(0, 0, 20);
        house.deal();
        Expect.index(house, "not split this time", () -> house.cardAt(0, 1, 0));
    }

    private static void splittingAces() {
        ShoeHouse house = Scene.dealt(11, Cards.ACES);
        Expect.same("ace and 10", house.split(0), 21);
        handHas(house, 0, 0, "1 10 ");
        handHas(house, 0, 1, "1 10 ");
        dealerHas(house, "9 8 ");
        Expect.same("paid once, they are no naturals", house.chips(0), 1022);
        Expect.same("nothing is broken", house.broken(), 0);
        isOver(house);
        ShoeHouse one = Scene.dealt(11, Cards.ACES_AND_FIVE);
        Expect.same("ace and 10", one.split(0), 21);
        Expect.same("the second hand plays", one.turn(), 0);
        Expect.same("hard 16", one.hit(0), 16);
        Expect.same("21", one.hit(0), 21);
        dealerHas(one, "9 8 ");
        Expect.same("both win", one.chips(0), 1022);
        ShoeHouse hit = Scene.dealt(11, Cards.ACES);
        Expect.same("a pair may be hit", hit.hit(0), 12);
    }

    private static void splittingRefused() {
        ShoeHouse house = Scene.withGuests(1, 30);
        Expect.index(house, "seat 3", () -> house.split(3));
        Expect.index(house, "seat -1", () -> house.split(-1));
        Expect.state(house, "no round", () -> house.split(0));
        house.bet(0, 0, 16);
        Scene.lay(house, 1, Cards.EIGHTS);
        house.deal();
        Expect.unsupported(house, "not the turn", () -> house.split(1));
        Expect.unsupported(house, "14 chips are too few", () -> house.split(0));
        house.buyIn(0, 2);
        house.limit(0, 31);
        Expect.unsupported(house, "above the limit", () -> house.split(0));
        ShoeHouse enough = Scene.withGuests(1, 32);
        enough.limit(0, 32);
        enough.bet(0, 0, 16);
        Scene.lay(enough, 1, Cards.EIGHTS);
        enough.deal();
        Expect.same("just enough", enough.split(0), 11);
        ShoeHouse unlike = Scene.dealt(20, Cards.BUSTS);
        Expect.unsupported(unlike, "10 and 8", () -> unlike.split(0));
    }

    private static void surrendering() {
        ShoeHouse house = Scene.withGuests(1, 1000);
        Expect.index(house, "seat 3", () -> house.surrender(3));
        Expect.index(house, "seat -1", () -> house.surrender(-1));
        Expect.state(house, "no round", () -> house.surrender(0));
        house.bet(1, 0, 11);
        Scene.lay(house, 1, Cards.BUSTS);
        house.deal();
        Expect.unsupported(house, "the rule does not hold", () -> house.surrender(1));
        house.stand(1);
        house.rule('u', true);
        house.bet(1, 0, 11);
        Scene.lay(house, 1, Cards.BUSTS);
        house.deal();
        Expect.unsupported(house, "not the turn", () -> house.surrender(0));
        Expect.same("half, cut", house.surrender(1), 5);
        Expect.same("chips", house.chips(0), 1005);
        Expect.same("the rest", house.tray(0), 6);
        Expect.same("nothing is broken", house.broken(), 0);
        dealerHas(house, "6 10 ");
        isOver(house);
        house.bet(0, 0, 20);
        Scene.lay(house, 1, Cards.ACES);
        house.deal();
        house.hit(0);
        Expect.unsupported(house, "three cards", () -> house.surrender(0));
    }

    private static void orderOfSettling() {
        ShoeHouse lostFirst = Scene.dealtToTwo("i i 18 o");
        handHas(lostFirst, 0, 0, "5 10 ");
        handHas(lostFirst, 2, 0, "10 10 ");
        Scene.standAll(lostFirst);
        dealerHas(lostFirst, "2 7 8 ");
        Expect.same("the lost stake pays the other", lostFirst.vault(), 98000);
        Expect.same("tray", lostFirst.tray(0), 0);
        Expect.same("win", lostFirst.win(0), 0);
        ShoeHouse wonFirst = Scene.dealtToTwo("i i i 33");
        handHas(wonFirst, 0, 0, "10 10 ");
        handHas(wonFirst, 2, 0, "3 5 ");
        Scene.standAll(wonFirst);
        dealerHas(wonFirst, "8 10 ");
        Expect.same("the vault paid the first", wonFirst.vault(), 97980);
        Expect.same("the second is in the tray", wonFirst.tray(0), 20);
        Expect.same("win", wonFirst.win(0), 0);
    }

    private static void barWhileTheHandPlays() {
        ShoeHouse house = Scene.dealtToTwo("20 i i i");
        Expect.same("comes back", house.bar(0, 1), 20);
        Expect.same("chips", house.chips(0), 1000);
        Expect.same("the next seat plays", house.turn(), 2);
        hasNoHands(house, "taken away", 0);
        Expect.state(house, "the seat has no stake, but a round goes on", () -> house.bet(0, 1, 5));
        Expect.same("over", house.stand(2), -1);
        dealerHas(house, "7 9 1 ");
        Expect.same("nothing comes of it", house.chips(0), 1000);
        Expect.same("the other lost", house.chips(1), 980);
        isOver(house);
        ShoeHouse last = Scene.dealtToTwo("20 i i i");
        last.stand(0);
        Expect.same("comes back", last.bar(1, 1), 20);
        dealerHas(last, "7 9 1 ");
        Expect.same("the one that stood wins", last.chips(0), 1020);
        isOver(last);
        ShoeHouse only = Scene.dealt(20, Cards.BUSTS);
        Expect.same("comes back", only.bar(0, 1), 20);
        dealerHas(only, "6 10 ");
        hasNoHands(only, "taken away, the round is over by that", 0);
        Expect.same("chips", only.chips(0), 1000);
        isOver(only);
    }

    private static void barWhileAnotherPlays() {
        ShoeHouse house = Scene.dealtToTwo("20 i i i");
        Expect.same("comes back", house.bar(1, 1), 20);
        Expect.same("the turn stays", house.turn(), 0);
        Expect.same("the cards were seen", house.left(2), 3);
        hasNoHands(house, "taken away", 2);
        Expect.same("over", house.stand(0), -1);
        Expect.same("won", house.chips(0), 1020);
        Expect.same("came back", house.chips(1), 1000);
        isOver(house);
        ShoeHouse stood = Scene.dealtToTwo("20 i i i");
        stood.stand(0);
        Expect.same("a hand that stood is not settled", stood.bar(0, 1), 20);
        Expect.same("the turn stays", stood.turn(), 2);
        stood.stand(2);
        Expect.same("nothing comes of it", stood.chips(0), 1000);
        Expect.same("win", stood.win(0), 20);
    }

    private static void barOfSplitsAndLostHands() {
        ShoeHouse house = Scene.dealt(20, Cards.EIGHTS);
        house.split(0);
        Expect.same("both hands", house.bar(0, 1), 40);
        hasNoHands(house, "both are taken away", 0);
        dealerHas(house, "6 10 ");
        isOver(house);
        ShoeHouse lost = Scene.dealtToTwo("i 48 i i");
        lost.hit(0);
        String lostCards = Snapshot.cards(lost, 0, 0);
        Expect.same("a lost hand is settled", lost.bar(0, 1), 0);
        Expect.same("chips", lost.chips(0), 980);
        Expect.unsupported(lost, "the seat has a settled stake", () -> lost.bet(0, 1, 5));
        handHas(lost, 0, 0, lostCards);
        Expect.same("the turn", lost.turn(), 2);
        lost.stand(2);
        handHas(lost, 0, 0, lostCards);
        isOver(lost);
    }

    private static void barOfNaturals() {
        ShoeHouse house = Scene.dealtToTwo("i i");
        Expect.same("the natural was not settled", house.bar(0, 1), 20);
        hasNoHands(house, "the natural is taken away", 0);
        house.stand(2);
        Expect.same("nothing comes of it", house.chips(0), 1000);
        Expect.same("nothing is broken", house.broken(), 0);
        ShoeHouse other = Scene.dealtToTwo("i i");
        String natural = Snapshot.cards(other, 0, 0);
        other.bar(1, 1);
        hasNoHands(other, "taken away", 2);
        handHas(other, 0, 0, natural);
        dealerHas(other, "4 7 ");
        Expect.same("a natural alone needs no dealer's cards", other.chips(0), 1030);
        isOver(other);
    }

    /** Two guests with 1000 chips each, stakes of 20 at the seats 0 and 2, tens alone, the seat 0 split. */
    private static ShoeHouse splitTens() {
        ShoeHouse house = Scene.withGuests(2, 1000);
        house.bet(0, 0, 20);
        house.bet(2, 1, 20);
        house.lay(1);
        house.cut(36);
        house.deal();
        house.split(0);
        return house;
    }

    private static void handsTakenAwayByABar() {
        ShoeHouse house = Scene.withGuests(2, 1000);
        for (int seat = 0; seat < 3; seat++) {
            house.bet(seat, seat % 2, 20);
        }
        house.weigh(10, -1);
        Scene.lay(house, 1, "36");
        house.deal();
        Expect.same("a hand that waits", house.bar(1, 1), 20);
        hasNoHands(house, "taken away", 1);
        handHas(house, 0, 0, "10 10 ");
        handHas(house, 2, 0, "10 10 ");
        Expect.same("the cards were seen", house.left(10), 9);
        Expect.same("the cards are counted", house.count(), -7);
        Expect.same("both seats", house.bar(0, 1), 40);
        hasNoHands(house, "taken away", 0);
        hasNoHands(house, "taken away", 2);
        dealerHas(house, "10 10 ");
        Expect.same("the cards were seen", house.left(10), 8);
        Expect.same("the cards are counted", house.count(), -8);
        isOver(house);
        house.guest(500);
        house.buyIn(2, 100);
        house.bet(0, 2, 20);
        hasNoHands(house, "a stake of another ahead of the deal", 0);
        house.deal();
        handHas(house, 0, 0, "10 10 ");
        hasNoHand(house, "not split", 0, 1);
        hasNoHands(house, "of the round before", 1);
    }

    private static void barOfOneHandOfASplit() {
        ShoeHouse first = splitTens();
        first.hit(0);
        Expect.same("the first hand is lost, the second plays", first.bar(0, 1), 20);
        handHas(first, 0, 0, "10 10 10 ");
        hasNoHand(first, "the second is taken away", 0, 1);
        Expect.none(first, "no fourth card", () -> first.cardAt(0, 0, 3));
        Expect.same("the turn", first.turn(), 2);
        first.stand(2);
        handHas(first, 0, 0, "10 10 10 ");
        hasNoHand(first, "also of the last round", 0, 1);
        isOver(first);
        ShoeHouse second = splitTens();
        second.stand(0);
        second.hit(0);
        Expect.same("the first hand stood, the second is lost", second.bar(0, 1), 20);
        hasNoHand(second, "the first is taken away", 0, 0);
        handHas(second, 0, 1, "10 10 10 ");
        Expect.same("the turn", second.turn(), 2);
        second.stand(2);
        isOver(second);
        ShoeHouse other = splitTens();
        Expect.same("of the other guest", other.bar(1, 1), 20);
        hasNoHands(other, "taken away", 2);
        handHas(other, 0, 0, "10 10 ");
        handHas(other, 0, 1, "10 10 ");
        Expect.same("the turn", other.turn(), 0);
    }

    /** What was settled lies on no table any more, so a bar takes nothing of it away. */
    private static void barOfSettledHands() {
        ShoeHouse given = Scene.withGuests(2, 1000);
        given.rule('u', true);
        given.bet(0, 0, 20);
        given.bet(2, 1, 20);
        Scene.lay(given, 1, "36");
        given.deal();
        given.surrender(0);
        Expect.same("a surrendered hand is settled", given.bar(0, 1), 0);
        handHas(given, 0, 0, "10 10 ");
        given.stand(2);
        handHas(given, 0, 0, "10 10 ");
        ShoeHouse house = splitTens();
        Scene.standAll(house);
        Expect.same("hands of the last round", house.bar(0, 1), 0);
        handHas(house, 0, 0, "10 10 ");
        handHas(house, 0, 1, "10 10 ");
        house.bet(0, 1, 30);
        Expect.same("a stake ahead of the deal", house.bar(1, 1), 30);
        handHas(house, 0, 0, "10 10 ");
        handHas(house, 0, 1, "10 10 ");
        handHas(house, 2, 0, "10 10 ");
        Expect.unsupported(house, "no seat has a stake", house::deal);
    }

    private static void emptyShoe() {
        ShoeHouse house = Scene.playedDown(39, "3333212331");
        house.split(0);
        Scene.hitAll(house, 0);
        house.split(1);
        Scene.hitAll(house, 1);
        Expect.same("one card and the hidden one", Scene.cardsLeft(house), 2);
        Expect.same("a pair", house.cardAt(2, 0, 0), house.cardAt(2, 0, 1));
        Expect.unsupported(house, "a split takes two", () -> house.split(2));
        house.hit(2);
        Expect.same("only the hidden one", Scene.cardsLeft(house), 1);
        Expect.unsupported(house, "no card", () -> house.hit(2));
        Expect.unsupported(house, "no card", () -> house.riffle(true));
        Expect.argument(house, "no card", () -> house.cut(1));
        Expect.unsupported(house, "no cards to deal, in a round", house::deal);
        house.weigh(1, 1);
        Expect.same("8 aces by the hidden card", house.trueCount(), 8 * 52);
        Expect.same("sound", house.isSound(), true);
        Expect.same("over", house.stand(2), -1);
        dealerHas(house, "2 3 ");
        isOver(house);
        Expect.same("all were seen", Scene.cardsLeft(house), 0);
        Expect.arithmetic(house, "all were seen", house::trueCount);
        Expect.arithmetic(house, "all were seen", () -> house.bustOver(12));
        Expect.arithmetic(house, "all were seen", () -> house.bustUnder(12));
        Expect.argument(house, "all were seen, 3", () -> house.bustUnder(3));
        Expect.unsupported(house, "no card", () -> house.riffle(false));
        house.bet(0, 0, 2);
        Expect.unsupported(house, "no card", house::deal);
        Expect.same("laid anew", house.lay(2), 104);
        Expect.same("left", house.left(10), 32);
    }

    private static void emptyShoeAndTwoCards() {
        ShoeHouse house = Scene.playedDown(33, "22312312331");
        house.split(0);
        Scene.hitAll(house, 0);
        house.split(1);
        Scene.hitAll(house, 1);
        Expect.same("seat 2 plays", house.turn(), 2);
        Expect.same("only the hidden one", Scene.cardsLeft(house), 1);
        Expect.none(house, "two cards", () -> house.cardAt(2, 0, 2));
        Expect.unsupported(house, "no card to double", () -> house.twice(2));
        Expect.same("over", house.stand(2), -1);
        Expect.none(house, "the dealer has no third card", () -> house.dealerAt(2));
        isOver(house);
    }

    private static void lastCards() {
        ShoeHouse house = Scene.playedDown(39, "3333212331");
        house.split(0);
        Scene.hitAll(house, 0);
        house.split(1);
        Scene.hitAll(house, 1);
        house.weigh(4, 1);
        int seen = house.count();
        Expect.same("8 of 4 but what is left", seen, 8 - house.left(4));
        house.twice(2);
        Expect.none(house, "a double takes the last one", () -> house.cardAt(2, 0, 3));
        Expect.same("and the dealer none", Scene.cardsLeft(house), 0);
        dealerHas(house, "2 3 ");
        isOver(house);
        ShoeHouse two = Scene.playedDown(30, "13131331133", "o");
        two.split(0);
        Scene.hitAll(two, 0);
        Scene.hitAll(two, 1);
        Expect.same("two cards and the hidden one", Scene.cardsLeft(two), 3);
        two.split(2);
        Expect.same("a split takes both", Scene.cardsLeft(two), Scene.isOn(two) ? 1 : 0);
        Scene.standAll(two);
        Expect.same("no card for the dealer", Scene.cardsLeft(two), 0);
        Expect.none(two, "no third card", () -> two.dealerAt(2));
        isOver(two);
    }

    private static void dealerTakesTheLastCard() {
        ShoeHouse house = Scene.playedDown(30, "11233113323", "5");
        for (int seat = 0; seat < 3; seat++) {
            for (int i = 0; i < 40 && Scene.isOn(house) && house.turn() == seat; i++) {
                house.hit(seat);
            }
        }
        Expect.same("no card is left", Scene.cardsLeft(house), 0);
        Expect.same("the dealer drew", house.dealerAt(2) > 0, true);
        isOver(house);
    }

    private static void cardsToDeal() {
        ShoeHouse house = Scene.withGuests(1, 1000);
        house.lay(1);
        house.cut(1);
        for (char seats : "311".toCharArray()) {
            for (int seat = 0; seat < seats - '0'; seat++) {
                house.bet(seat, 0, 20);
            }
            house.deal();
            Scene.standAll(house);
        }
        Expect.same("29 cards", Scene.cardsLeft(house), 29);
        house.bet(0, 0, 20);
        Expect.unsupported(house, "29 are too few", house::deal);
    }

    private static void dealerAtTwentyTwo() {
        ShoeHouse house = Scene.withGuests(1, 1000);
        house.lay(1);
        house.cut(7);
        house.bet(0, 0, 20);
        house.bet(1, 0, 20);
        house.deal();
        Scene.standAll(house);
        house.bet(0, 0, 20);
        int before = house.chips(0);
        house.deal();
        Expect.same("over", house.stand(0), -1);
        int sum = 0;
        for (String card : Snapshot.dealer(house).trim().split(" ")) {
            sum += Integer.parseInt(card);
        }
        Expect.same("22", sum, 22);
        Expect.same("the dealer is above 21", house.chips(0), before + 40);
        isOver(house);
    }

    private static void layForgets() {
        ShoeHouse house = Scene.dealt(20, Cards.EIGHTS);
        Expect.state(house, "a round goes on", () -> house.lay(1));
        Expect.state(house, "a round goes on", () -> house.cut(1));
        Expect.state(house, "a round goes on", () -> house.riffle(true));
        Expect.argument(house, "a round goes on, 3 decks", () -> house.lay(3));
        Expect.argument(house, "a round goes on, all cards", () -> house.cut(48));
        house.split(0);
        Scene.standAll(house);
        house.bet(1, 0, 5);
        handHas(house, 0, 1, "8 9 ");
        house.lay(1);
        Expect.index(house, "forgotten", () -> house.cardAt(0, 0, 0));
        Expect.index(house, "forgotten", () -> house.cardAt(0, 1, 0));
        Expect.none(house, "forgotten", () -> house.dealerAt(0));
        house.deal();
        Expect.index(house, "not dealt", () -> house.cardAt(0, 0, 0));
        handHas(house, 1, 0, "1 1 ");
    }

    /** Promise 23: a seat to which no cards were dealt has no hand, whatever place is asked. */
    private static void hasNoHands(ShoeHouse house, String what, int seat) {
        for (int hand = -1; hand <= 2; hand++) {
            hasNoHand(house, what, seat, hand);
        }
    }

    private static void hasNoHand(ShoeHouse house, String what, int seat, int hand) {
        for (int place : new int[] {Integer.MIN_VALUE, -1, 0, 1, 2, 22, Integer.MAX_VALUE}) {
            String call = what + ", cardAt(" + seat + ", " + hand + ", " + place + ")";
            Expect.index(house, call, () -> house.cardAt(seat, hand, place));
        }
    }

    private static void seatsWithoutHands() {
        ShoeHouse house = new ShoeHouse();
        for (int seat = -1; seat <= 3; seat++) {
            hasNoHands(house, "a new house", seat);
        }
        house.guest(1000);
        house.buyIn(0, 1000);
        Scene.lay(house, 1, Cards.EIGHTS);
        hasNoHands(house, "no round yet", 1);
        house.bet(1, 0, 20);
        hasNoHands(house, "a stake ahead of the deal", 1);
        house.deal();
        handHas(house, 1, 0, "8 8 ");
        hasNoHand(house, "not split", 1, 1);
        hasNoHands(house, "no stake in this round", 0);
        hasNoHands(house, "no stake in this round", 2);
        house.split(1);
        Expect.none(house, "no third card of the first hand", () -> house.cardAt(1, 0, 2));
        Expect.none(house, "no third card of the second hand", () -> house.cardAt(1, 1, 2));
        Expect.none(house, "no place -1 of the second hand", () -> house.cardAt(1, 1, -1));
        hasNoHand(house, "a split has two hands", 1, 2);
        hasNoHand(house, "a split has two hands", 1, -1);
        Scene.standAll(house);
        hasNoHands(house, "no stake in the last round", 0);
        house.lay(2);
        hasNoHands(house, "the last round is forgotten", 1);
    }

    private static void handsOfTheLastRound() {
        ShoeHouse house = Scene.withGuests(1, 1000);
        house.lay(1);
        house.cut(36);
        house.bet(0, 0, 20);
        house.deal();
        house.split(0);
        Scene.standAll(house);
        house.bet(1, 0, 20);
        handHas(house, 0, 0, "10 10 ");
        handHas(house, 0, 1, "10 10 ");
        hasNoHands(house, "a stake ahead of the next deal", 1);
        house.cut(1);
        house.riffle(true);
        handHas(house, 0, 1, "10 10 ");
        house.deal();
        hasNoHands(house, "no stake in the next round", 0);
        Expect.none(house, "a hand without a third card", () -> house.cardAt(1, 0, 2));
        hasNoHand(house, "not split", 1, 1);
    }
}
