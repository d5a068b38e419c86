/** Counts the checks of one test program. */
final class Expect {
    private static int checks = 0;
    private static int wrong = 0;
    private static String sentence = "";

    private Expect() {
    }

    /** The sentence of the document that the next checks are about. */
    static void about(String told) {
        sentence = told;
    }

    static int checks() {
        return checks;
    }

    static void same(String what, long got, long due) {
        judge(got == due, what, Long.toString(got), Long.toString(due));
    }

    static void same(String what, boolean got, boolean due) {
        judge(got == due, what, Boolean.toString(got), Boolean.toString(due));
    }

    /** Doubles are due to the last bit: the document tells the order of the sums. */
    static void same(String what, double got, double due) {
        boolean isSame = Double.doubleToRawLongBits(got) == Double.doubleToRawLongBits(due);
        judge(isSame, what, Double.toString(got), Double.toString(due));
    }

    static void same(String what, float got, float due) {
        boolean isSame = Float.floatToRawIntBits(got) == Float.floatToRawIntBits(due);
        judge(isSame, what, Float.toString(got), Float.toString(due));
    }

    static void same(String what, String got, String due) {
        judge(got.equals(due), what, got, due);
    }

    static void index(ShoeHouse house, String what, Runnable call) {
        refused(house, IndexOutOfBoundsException.class, what, call);
    }

    static void argument(ShoeHouse house, String what, Runnable call) {
        refused(house, IllegalArgumentException.class, what, call);
    }

    static void state(ShoeHouse house, String what, Runnable call) {
        refused(house, IllegalStateException.class, what, call);
    }

    static void unsupported(ShoeHouse house, String what, Runnable call) {
        refused(house, UnsupportedOperationException.class, what, call);
    }

    static void none(ShoeHouse house, String what, Runnable call) {
        refused(house, java.util.NoSuchElementException.class, what, call);
    }

    static void arithmetic(ShoeHouse house, String what, Runnable call) {
        refused(house, ArithmeticException.class, what, call);
    }

    /** The call must throw just this class, and must leave all that can be asked as it was. */
    private static void refused(ShoeHouse house, Class<?> due, String what, Runnable call) {
        String before = Snapshot.of(house);
        String got = "no exception";
        try {
            call.run();
        } catch (RuntimeException thrown) {
            got = thrown.getClass().getName();
        }
        judge(got.equals(due.getName()), what, got, due.getName());
        String after = Snapshot.of(house);
        judge(before.equals(after), what + " changes nothing", after, before);
    }

    private static void judge(boolean isRight, String what, String got, String due) {
        checks++;
        if (!isRight) {
            wrong++;
            System.out.println(sentence + (sentence.isEmpty() ? "" : " | ") + what + ": got " + got + ", due is " + due);
        }
    }

    static void end(Class<?> test) {
        System.out.println(test.getName() + ": " + checks + " checks, " + wrong + " wrong");
        if (wrong != 0 || checks == 0) {
            System.exit(1);
        }
    }
}
