import java.util.function.Consumer;
import java.util.function.Supplier;

/** Ways to bring a house into the state that a test needs. */
final class Scene {
    private Scene() {
    }

    /** A house with guests who have so many chips each. */
    static ShoeHouse withGuests(int guests, int chips) {
        ShoeHouse house = new ShoeHouse();
        for (int i = 0; i < guests; i++) {
            house.guest(9000);
            if (chips > 0) {
                house.buyIn(i, chips);
            }
        }
        return house;
    }

    /** Lays a deck, then riffles ('o' out, 'i' in) and cuts (a number); FindShuffle tells such recipes. */
    static void lay(ShoeHouse house, int decks, String recipe) {
        house.lay(decks);
        mix(house, recipe);
    }

    static void mix(ShoeHouse house, String recipe) {
        for (String step : recipe.split(" ")) {
            if (step.equals("o") || step.equals("i")) {
                house.riffle(step.equals("o"));
            } else if (!step.isEmpty()) {
                house.cut(Integer.parseInt(step));
            }
        }
    }

    /** One guest with 1000 chips and a stake at seat 0, the shoe being laid. */
    static ShoeHouse staked(int stake, String recipe) {
        ShoeHouse house = withGuests(1, 1000);
        house.bet(0, 0, stake);
        lay(house, 1, recipe);
        return house;
    }

    static ShoeHouse dealt(int stake, String recipe) {
        ShoeHouse house = staked(stake, recipe);
        house.deal();
        return house;
    }

    /** Two guests with 1000 chips each, with stakes of 20 at the seats 0 and 2. */
    static ShoeHouse dealtToTwo(String recipe) {
        ShoeHouse house = withGuests(2, 1000);
        house.bet(0, 0, 20);
        house.bet(2, 1, 20);
        lay(house, 1, recipe);
        house.deal();
        return house;
    }

    /** Stakes of 2 chips of guest 0 at so many seats. */
    static void betAt(ShoeHouse house, int seats) {
        for (int seat = 0; seat < seats; seat++) {
            house.bet(seat, 0, 2);
        }
    }

    /** A round of each digit's number of seats, in which all stand. */
    static void standRounds(ShoeHouse house, String seats) {
        for (int i = 0; i < seats.length(); i++) {
            betAt(house, seats.charAt(i) - '0');
            house.deal();
            standAll(house);
        }
    }

    /** Two decks with rounds of so many seats, all standing, then a round at three; the low cards are the last ones. */
    static ShoeHouse playedDown(int cut, String seats) {
        return playedDown(cut, seats, "");
    }

    static ShoeHouse playedDown(int cut, String seats, String recipe) {
        ShoeHouse house = withGuests(1, 5000);
        house.lay(2);
        house.cut(cut);
        standRounds(house, seats);
        mix(house, recipe);
        house.rule('u', true);
        betAt(house, 3);
        house.deal();
        return house;
    }

    static void hitAll(ShoeHouse house, int seat) {
        for (int i = 0; i < 40 && house.turn() == seat; i++) {
            house.hit(seat);
        }
    }

    /** Acts for the hand that plays: 'h' hits, 's' stands, 'd' doubles, 'p' splits, 'u' surrenders. */
    static void act(ShoeHouse house, String acts) {
        for (char act : acts.toCharArray()) {
            int seat = house.turn();
            switch (act) {
                case 'h': house.hit(seat); break;
                case 's': house.stand(seat); break;
                case 'd': house.twice(seat); break;
                case 'p': house.split(seat); break;
                default: house.surrender(seat); break;
            }
        }
    }

    private static final String HITS = "hhhhhhhhhhhhhhhhh";

    /** Two decks played down to so many cards, 0 to 2, the round being over. */
    static ShoeHouse withCards(int cards) {
        int[] cuts = {40, 41, 43};
        String[] rounds = {"22222331132", "1322331323", "2232313233"};
        ShoeHouse house = playedDown(cuts[cards], rounds[cards]);
        act(house, "p" + HITS);
        return house;
    }

    /** In a round seat 2 has a pair, and the shoe has one card. */
    static ShoeHouse withLastCard() {
        ShoeHouse house = playedDown(39, "3333212331");
        house.split(0);
        hitAll(house, 0);
        house.split(1);
        hitAll(house, 1);
        return house;
    }

    /** In a round seat 2 plays with three cards, and the shoe is empty; only the hidden 3 was not seen. */
    static ShoeHouse withoutCards() {
        ShoeHouse house = withLastCard();
        house.hit(2);
        return house;
    }

    /** In a round seat 2 plays with two cards that are no pair, and the shoe is empty. */
    static ShoeHouse withoutCardsAndTwo() {
        ShoeHouse house = playedDown(33, "22312312331");
        house.split(0);
        hitAll(house, 0);
        house.split(1);
        hitAll(house, 1);
        return house;
    }

    /** In a round seat 2 has a pair, and the shoe is empty. */
    static ShoeHouse withoutCardsAndPair() {
        ShoeHouse house = playedDown(30, "311123121223");
        act(house, "phhhhhhhhhhhphhhhhhh");
        return house;
    }

    /** In a round the dealer has a 10, and of all cards only the hidden 10 was not seen. */
    static ShoeHouse withHiddenTen() {
        ShoeHouse house = playedDown(23, "2312321333", "i");
        act(house, "phhhhsphhsphhhhhhhhhh");
        return house;
    }

    /** In a round seat 2 has a pair, and the shoe has two cards. */
    static ShoeHouse withTwoCards() {
        ShoeHouse house = playedDown(30, "13131331133", "o");
        house.split(0);
        hitAll(house, 0);
        hitAll(house, 1);
        return house;
    }

    /** Two decks of which only the 32 tens are left; guest 0 has chips. */
    static ShoeHouse withTens() {
        ShoeHouse house = withGuests(1, 5000);
        house.lay(2);
        standRounds(house, "313231231");
        return house;
    }

    /** Two guests, of whom the first one bought so many chips that the vault has just these. */
    static ShoeHouse withVault(int chips) {
        ShoeHouse house = new ShoeHouse();
        house.guest(99999);
        house.guest(99999);
        for (int left = 100000 - chips; left > 0; left -= 9999) {
            int coins = Math.min(left, 9999);
            house.buyIn(house.money(0) >= coins ? 0 : 1, coins);
        }
        return house;
    }

    /** The vault paid 35 chips more than it had. */
    static ShoeHouse withVaultBelowNone() {
        ShoeHouse house = withVault(0);
        house.wager(0, 'n', 7, 1);
        house.spin(7);
        return house;
    }

    static ShoeHouse later(ShoeHouse house, int days) {
        for (int left = days; left > 0; left -= 30) {
            house.pass(Math.min(left, 30));
        }
        return house;
    }

    /** A new house of the setting, on which a call was made. */
    static ShoeHouse after(Supplier<ShoeHouse> setting, Consumer<ShoeHouse> call) {
        ShoeHouse house = setting.get();
        call.accept(house);
        return house;
    }

    static boolean isOn(ShoeHouse house) {
        try {
            return house.turn() >= 0;
        } catch (IllegalStateException over) {
            return false;
        }
    }

    static void standAll(ShoeHouse house) {
        for (int i = 0; i < 6 && isOn(house); i++) {
            house.stand(house.turn());
        }
    }

    /** The cards that were not seen. */
    static int cardsLeft(ShoeHouse house) {
        int sum = 0;
        for (int rank = 1; rank <= 10; rank++) {
            sum += house.left(rank);
        }
        return sum;
    }
}
