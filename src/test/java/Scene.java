/** Ways to bring a house into the state that a test needs. */
final class Scene {
    private Scene() {
    }

    /** A house with guests who have so many chips each. */
    static ShoeHouse withGuests(int guests, int chips) {
        ShoeHouse house = new ShoeHouse();
        for (int i = 0; i < guests; i++) {
            house.guest(9000);
            if (chips > 0) {
                house.buyIn(i, chips);
            }
        }
        return house;
    }

    /** Lays a deck, then riffles ('o' out, 'i' in) and cuts (a number); FindShuffle tells such recipes. */
    static void lay(ShoeHouse house, int decks, String recipe) {
        house.lay(decks);
        mix(house, recipe);
    }

    static void mix(ShoeHouse house, String recipe) {
        for (String step : recipe.split(" ")) {
            if (step.equals("o") || step.equals("i")) {
                house.riffle(step.equals("o"));
            } else if (!step.isEmpty()) {
                house.cut(Integer.parseInt(step));
            }
        }
    }

    static boolean isOn(ShoeHouse house) {
        try {
            return house.turn() >= 0;
        } catch (IllegalStateException over) {
            return false;
        }
    }

    static void standAll(ShoeHouse house) {
        for (int i = 0; i < 6 && isOn(house); i++) {
            house.stand(house.turn());
        }
    }

    /** The cards that were not seen. */
    static int cardsLeft(ShoeHouse house) {
        int sum = 0;
        for (int rank = 1; rank <= 10; rank++) {
            sum += house.left(rank);
        }
        return sum;
    }
}
