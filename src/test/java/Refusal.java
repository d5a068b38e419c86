import java.util.NoSuchElementException;
import java.util.function.Consumer;
import java.util.function.Supplier;

/**
 * Calls that must be refused. A refused call must leave all as it was: what can be asked, and what later calls bring to
 * light. So each setting is made anew for the house that refuses and for one that was not called, and both are probed.
 */
final class Refusal {
    /** A call that takes a number of a range. */
    interface Numbered {
        void on(ShoeHouse house, int number);
    }

    private Refusal() {
    }

    static void index(String what, Supplier<ShoeHouse> setting, Consumer<ShoeHouse> call) {
        check(IndexOutOfBoundsException.class, what, setting, call);
    }

    static void argument(String what, Supplier<ShoeHouse> setting, Consumer<ShoeHouse> call) {
        check(IllegalArgumentException.class, what, setting, call);
    }

    static void unsupported(String what, Supplier<ShoeHouse> setting, Consumer<ShoeHouse> call) {
        check(UnsupportedOperationException.class, what, setting, call);
    }

    static void state(String what, Supplier<ShoeHouse> setting, Consumer<ShoeHouse> call) {
        check(IllegalStateException.class, what, setting, call);
    }

    static void none(String what, Supplier<ShoeHouse> setting, Consumer<ShoeHouse> call) {
        check(NoSuchElementException.class, what, setting, call);
    }

    static void arithmetic(String what, Supplier<ShoeHouse> setting, Consumer<ShoeHouse> call) {
        check(ArithmeticException.class, what, setting, call);
    }

    /** Arguments: both ends of the range are taken, and what is beyond them is refused. */
    static void arguments(Supplier<ShoeHouse> setting, int least, int most, Numbered call) {
        range(IllegalArgumentException.class, setting, least, most, call);
    }

    /** Places: both ends of the range are taken, and what is beyond them is refused. */
    static void indexes(Supplier<ShoeHouse> setting, int least, int most, Numbered call) {
        range(IndexOutOfBoundsException.class, setting, least, most, call);
    }

    private static void range(Class<?> due, Supplier<ShoeHouse> setting, int least, int most, Numbered call) {
        for (int number : new int[] {least, most}) {
            taken("takes " + number, setting, house -> call.on(house, number));
        }
        for (int number : new int[] {least - 1, most + 1, Integer.MIN_VALUE, Integer.MAX_VALUE}) {
            check(due, "refuses " + number, setting, house -> call.on(house, number));
        }
    }

    /** The call is not refused. */
    static void taken(String what, Supplier<ShoeHouse> setting, Consumer<ShoeHouse> call) {
        Expect.same(what, thrownBy(setting.get(), call), "nothing");
    }

    private static void check(Class<?> due, String what, Supplier<ShoeHouse> setting, Consumer<ShoeHouse> call) {
        for (int way = 0; way < Probe.WAYS; way++) {
            ShoeHouse house = setting.get();
            Expect.same(what, thrownBy(house, call), due.getName());
            String got = Probe.of(house, way);
            String untouched = Probe.of(setting.get(), way);
            Expect.same(what + ", which changes nothing", difference(got, untouched), "");
        }
    }

    private static String thrownBy(ShoeHouse house, Consumer<ShoeHouse> call) {
        try {
            call.accept(house);
            return "nothing";
        } catch (RuntimeException thrown) {
            return thrown.getClass().getName();
        }
    }

    /** Where the texts part, empty if they are the same. */
    static String difference(String got, String due) {
        int at = 0;
        while (at < got.length() && at < due.length() && got.charAt(at) == due.charAt(at)) {
            at++;
        }
        if (at == got.length() && at == due.length()) {
            return "";
        }
        int from = Math.max(0, at - 60);
        return got.substring(from, Math.min(got.length(), at + 20)) + " <> " + due.substring(from, Math.min(due.length(), at + 20));
    }
}
