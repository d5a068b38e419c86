/** What a house does from here on, as a text: what can be asked, and what is hidden till later calls bring it to light. */
final class Probe {
    /** Some calls hide what others would show, so there are several ways to go on. */
    static final int WAYS = 3;
    private static final int[] FALLS = {1, 20, 36};

    private final ShoeHouse house;
    private final StringBuilder text = new StringBuilder();

    private interface Call {
        Object on(ShoeHouse house);
    }

    private Probe(ShoeHouse house) {
        this.house = house;
    }

    /** The house is used up by it. */
    static String of(ShoeHouse house, int way) {
        Probe probe = new Probe(house);
        probe.lookOver();
        if (way == 0) {
            probe.limits();
        }
        if (way == 1) {
            probe.claims();
        }
        probe.weights();
        probe.lottery();
        probe.note("spin", asked -> asked.spin(FALLS[way]));
        probe.machine(way);
        probe.round();
        probe.days();
        probe.limits();
        probe.bars();
        probe.lookOver();
        return probe.text.toString();
    }

    private void note(String what, Call call) {
        text.append(' ').append(what).append(' ');
        try {
            text.append(call.on(house));
        } catch (RuntimeException thrown) {
            text.append(thrown.getClass().getSimpleName());
        }
    }

    private void lookOver() {
        text.append('\n').append(Snapshot.of(house)).append(house.isSound());
    }

    private void limits() {
        for (int guest = 0; guest < 8; guest++) {
            int asked = guest;
            note("limit", house -> house.limit(asked, 5000));
        }
    }

    private void claims() {
        for (int guest = 0; guest < 8; guest++) {
            int asked = guest;
            note("claim", house -> house.claim(asked));
        }
    }

    private void weights() {
        for (int rank = 1; rank <= 10; rank++) {
            int asked = rank;
            note("weight", house -> house.weigh(asked, 0));
            note("weight", house -> house.weigh(asked, asked % 4));
        }
        note("count", ShoeHouse::count);
    }

    /** Recasts of all draws show the numbers of each ticket that may win. */
    private void lottery() {
        note("confirm", ShoeHouse::confirm);
        for (int numbers = 12; numbers <= 789; numbers++) {
            int asked = numbers;
            if (numbers / 100 < numbers / 10 % 10 && numbers / 10 % 10 < numbers % 10) {
                note("", house -> house.draw(asked));
            }
        }
        note("draw", house -> house.draw(123));
        note("confirm", ShoeHouse::confirm);
        for (int guest = 0; guest < 8; guest++) {
            int asked = guest;
            note("ticket", house -> house.ticket(asked, 123));
            note("ticket", house -> house.ticket(asked, 124));
        }
        note("draw", house -> house.draw(321));
        note("confirm", ShoeHouse::confirm);
    }

    private void machine(int way) {
        if (way == 0) {
            note("recover", ShoeHouse::recover);
            note("tilt", ShoeHouse::tilt);
            note("recover", ShoeHouse::recover);
        }
        note("stop", house -> house.stop(way));
        note("recover", ShoeHouse::recover);
        for (int symbol = 0; symbol < 5; symbol++) {
            int asked = symbol;
            note("pays", house -> house.pays(asked, asked + 1));
        }
        note("bound", house -> house.bound(5));
        note("return", ShoeHouse::returnOver);
        for (int stop = 0; stop < 8; stop++) {
            int asked = stop;
            note("pull", house -> house.pull(0, 5));
            note("stop", house -> house.stop(111 * asked));
        }
    }

    private void round() {
        lookOver();
        for (int i = 0; i < 7; i++) {
            note("turn", ShoeHouse::turn);
            note("stand", house -> house.stand(house.turn()));
        }
        lookOver();
        for (int i = 0; i < 104; i++) {
            note("", house -> house.cut(1));
        }
        for (char letter : "dusn".toCharArray()) {
            note("rule", house -> house.rule(letter, letter != 'd'));
        }
        note("deal", ShoeHouse::deal);
        for (int i = 0; i < 7; i++) {
            note("stand", house -> house.stand(house.turn()));
        }
        lookOver();
        for (int seat = 0; seat < 3; seat++) {
            int asked = seat;
            note("bet", house -> house.bet(asked, 0, 2 + asked));
        }
        note("deal", ShoeHouse::deal);
        note("surrender", house -> house.surrender(house.turn()));
        for (int i = 0; i < 7; i++) {
            note("stand", house -> house.stand(house.turn()));
        }
        lookOver();
    }

    private void days() {
        for (int guest = 0; guest < 8; guest++) {
            int asked = guest;
            note("buyIn", house -> house.buyIn(asked, 500));
            note("buyIn", house -> house.buyIn(asked, 499));
            note("reports", house -> house.reports(asked));
            note("buyIn", house -> house.buyIn(asked, 1));
        }
        lookOver();
        for (int i = 0; i < 5; i++) {
            note("pass", house -> house.pass(1));
            lookOver();
            if (i == 0) {
                limits();
            }
        }
        note("shift", ShoeHouse::shift);
    }

    /** A day that is not earlier than the one told before is taken. */
    private void bars() {
        for (int guest = 0; guest < 8; guest++) {
            for (int days = 1; days < 30; days++) {
                int asked = guest;
                int until = days;
                note("bar", house -> house.bar(asked, house.day() + until));
            }
        }
    }
}
