/** All that can be asked of a house without changing it, as a text. */
final class Snapshot {
    private Snapshot() {
    }

    private interface Question {
        Object ask();
    }

    static String of(ShoeHouse house) {
        StringBuilder text = new StringBuilder();
        text.append("day ").append(house.day()).append(" vault ").append(house.vault());
        text.append(" pot ").append(house.pot()).append(" pool ").append(house.pool());
        text.append(" count ").append(house.count()).append(" broken ").append(house.broken());
        text.append(" return ").append(house.returnOver()).append('/').append(house.returnUnder());
        text.append(" sum ").append(house.checksum()).append(" turn ").append(answer(house::turn));
        for (int guest = 0; guest < 8; guest++) {
            addGuest(text, house, guest);
        }
        for (int table = 0; table < 3; table++) {
            text.append(" tray ").append(house.tray(table)).append(" win ").append(house.win(table));
        }
        for (int rank = 1; rank <= 10; rank++) {
            text.append(" left ").append(house.left(rank));
        }
        addCards(text, house);
        return text.toString();
    }

    private static void addGuest(StringBuilder text, ShoeHouse house, int guest) {
        text.append(" guest ").append(answer(() -> house.money(guest)));
        text.append(' ').append(answer(() -> house.chips(guest)));
        text.append(' ').append(answer(() -> house.staked(guest)));
        text.append(' ').append(answer(() -> house.reports(guest)));
        text.append(' ').append(answer(() -> house.isBarred(guest)));
        text.append(' ').append(answer(() -> house.isSuspected(guest)));
    }

    private static void addCards(StringBuilder text, ShoeHouse house) {
        text.append(" dealer ").append(dealer(house)).append(hands(house));
    }

    /** The ranks of the dealer's cards that are seen, a space behind each. */
    static String dealer(ShoeHouse house) {
        StringBuilder text = new StringBuilder();
        for (int place = 0; place < 23; place++) {
            int at = place;
            Object rank = answer(() -> house.dealerAt(at));
            if (!(rank instanceof Integer)) {
                break;
            }
            text.append(rank).append(' ');
        }
        return text.toString();
    }

    /** The cards of all hands. */
    static String hands(ShoeHouse house) {
        StringBuilder text = new StringBuilder();
        for (int seat = 0; seat < 3; seat++) {
            for (int hand = 0; hand < 2; hand++) {
                text.append(" hand ").append(cards(house, seat, hand));
            }
        }
        return text.toString();
    }

    /** The ranks of a hand, a space behind each. */
    static String cards(ShoeHouse house, int seat, int hand) {
        StringBuilder text = new StringBuilder();
        for (int place = 0; place < 23; place++) {
            int at = place;
            Object rank = answer(() -> house.cardAt(seat, hand, at));
            if (!(rank instanceof Integer)) {
                break;
            }
            text.append(rank).append(' ');
        }
        return text.toString();
    }

    private static Object answer(Question question) {
        try {
            return question.ask();
        } catch (RuntimeException thrown) {
            return thrown.getClass().getSimpleName();
        }
    }
}
