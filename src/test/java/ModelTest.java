import java.lang.reflect.InvocationTargetException;
import java.lang.reflect.Method;
import java.util.ArrayList;
import java.util.Arrays;
import java.util.Comparator;
import java.util.List;
import java.util.Random;
import java.util.TreeMap;

/**
 * The house and the model (see Model) answer the same, in runs of 512 calls: each run favours calls of its own, so that
 * states come up that no other test thinks of. Arguments are mostly in range, at times at its ends or anywhere.
 */
public final class ModelTest {
    private static final int MOST_CALLS = 512;
    private static final int[] FAVOURS = {0, 1, 1, 2, 5, 20};
    private static final String DEAR = " dealerEnds isSound ";
    private static final String HINDERING = " bar limit pass cashOut ";
    private static final String[] GAMES = {
        " isSuspected ", " bar ", " wager spin ", " pull stop tilt recover stops ", " ticket draw confirm claim pass "
    };
    private static final String[] IN_ROUND = {
        "hit", "hit", "stand", "stand", "twice", "split", "split", "surrender", "cardAt", "dealerAt"
    };
    private static final String[] AHEAD = {"bet", "bet", "bet", "deal", "deal", "lay", "riffle", "cut", "dealerAt"};

    private final Random random;
    private final ShoeHouse house = new ShoeHouse();
    private final Model model = new Model();
    private final StringBuilder told = new StringBuilder();
    private final TreeMap<String, Integer> answered;
    private int calls;
    private boolean isAtCards;

    private ModelTest(int seed, TreeMap<String, Integer> answered) {
        random = new Random(seed);
        this.answered = answered;
    }

    public static void main(String[] args) {
        int runs = args.length > 0 ? Integer.parseInt(args[0]) : 4000;
        int first = args.length > 1 ? Integer.parseInt(args[1]) : 0;
        TreeMap<String, Integer> answered = new TreeMap<>();
        for (int seed = first; seed < first + runs; seed++) {
            Expect.same("run " + seed, new ModelTest(seed, answered).run(), "");
        }
        for (Method method : methods()) {
            Expect.same("answers of " + method.getName(), answered.getOrDefault(method.getName(), 0) > runs / 100, true);
        }
        System.out.println(answered);
        Expect.end(ModelTest.class);
    }

    private static List<Method> methods() {
        List<Method> methods = new ArrayList<>(Arrays.asList(ShoeHouse.class.getDeclaredMethods()));
        methods.removeIf(method -> !java.lang.reflect.Modifier.isPublic(method.getModifiers()));
        methods.sort(Comparator.comparing(Method::getName));
        return methods;
    }

    /** The first difference with the calls that led to it, empty if there is none. */
    private String run() {
        List<Method> chosen = new ArrayList<>();
        String game = GAMES[random.nextInt(GAMES.length)];
        for (Method method : methods()) {
            String name = " " + method.getName() + " ";
            int favour = FAVOURS[random.nextInt(FAVOURS.length)];
            if (HINDERING.contains(name)) {
                favour = random.nextInt(3);
            }
            if (DEAR.contains(name)) {
                favour = random.nextInt(3) == 0 ? 1 : 0;
            }
            favour += game.contains(name) ? 5 + random.nextInt(30) : 0;
            isAtCards = game.equals(GAMES[0]) || game.equals(GAMES[1]);
            for (int i = 0; i < favour; i++) {
                chosen.add(method);
            }
        }
        String difference = prepare();
        while (difference.isEmpty() && calls < MOST_CALLS) {
            Method method = chosen.get(random.nextInt(chosen.size()));
            String name = isAtCards && random.nextInt(4) > 0 ? ofRounds() : method.getName();
            difference = call(name, arguments(name));
        }
        return difference;
    }

    private String ofRounds() {
        String[] names = Scene.isOn(house) ? IN_ROUND : AHEAD;
        calls++;
        return names[random.nextInt(names.length)];
    }

    private String prepare() {
        String difference = "";
        int guests = 1 + random.nextInt(4);
        for (int i = 0; i < guests; i++) {
            difference += call("guest", random.nextInt(4) == 0 ? random.nextInt(300) : 20000);
            difference += call("buyIn", i, 1 + random.nextInt(random.nextInt(3) == 0 ? 200 : 9000));
        }
        difference += call("lay", 1 + random.nextInt(2));
        for (int i = random.nextInt(8); i > 0; i--) {
            difference += random.nextBoolean() ? call("riffle", random.nextBoolean()) : call("cut", 1 + random.nextInt(51));
        }
        for (char letter : "dusn".toCharArray()) {
            difference += call("rule", letter, random.nextBoolean());
        }
        return difference;
    }

    private String call(String name, Object... arguments) {
        for (Method method : methods()) {
            if (method.getName().equals(name)) {
                return call(method, arguments);
            }
        }
        return "no method " + name;
    }

    private String call(Method method, Object[] arguments) {
        calls++;
        String got = answer(method, house, arguments);
        String due;
        try {
            due = answer(Model.class.getDeclaredMethod(method.getName(), method.getParameterTypes()), model, arguments);
        } catch (NoSuchMethodException missing) {
            return "the model has no " + method;
        }
        told.append(method.getName()).append(Arrays.toString(arguments)).append(" -> ").append(got).append('\n');
        if (!got.startsWith("throws")) {
            answered.merge(method.getName(), 1, Integer::sum);
        }
        return got.equals(due) ? "" : told + "the model answers " + due + "\n";
    }

    private static String answer(Method method, Object owner, Object[] arguments) {
        try {
            return String.valueOf(method.invoke(owner, arguments));
        } catch (InvocationTargetException thrown) {
            return "throws " + thrown.getCause().getClass().getName();
        } catch (IllegalAccessException hidden) {
            return "hidden";
        }
    }

    /** Mostly in the range, at times at an end, beside it, or anywhere. */
    private int number(int least, int most) {
        switch (random.nextInt(24)) {
            case 0: return least - 1;
            case 1: return most + 1;
            case 2: return least;
            case 3: return most;
            case 4: return random.nextInt(6) == 0 ? random.nextInt() : least + random.nextInt(most - least + 1);
            default: return least + random.nextInt(most - least + 1);
        }
    }

    private int guest() {
        return random.nextInt(3) > 0 ? random.nextInt(2) : number(0, 4);
    }

    private int seat() {
        try {
            return random.nextInt(8) > 0 ? model.turn() : number(0, 2);
        } catch (IllegalStateException none) {
            return number(0, 2);
        }
    }

    /** Small stakes mostly, so that chips and limits last. */
    private int stake(int least, int most) {
        return random.nextInt(6) > 0 ? least + random.nextInt(20) : number(least, most);
    }

    private int lotteryNumbers() {
        int[] some = {123, 132, 321, 124, 134, 12, 456, 120};
        return random.nextInt(5) > 0 ? some[random.nextInt(some.length)] : number(0, 999);
    }

    private Object[] arguments(String name) {
        switch (name) {
            case "guest": return of(number(0, 99999));
            case "buyIn": return of(guest(), random.nextInt(3) > 0 ? 1 + random.nextInt(700) : number(1, 9999));
            case "cashOut": return of(guest(), random.nextInt(3) > 0 ? 1 + random.nextInt(200) : number(1, 99999));
            case "limit": return of(guest(), random.nextInt(3) == 0 ? number(0, 300) : number(0, 5000));
            case "bar": return of(guest(), random.nextInt(9) == 0 ? number(1, 999) : model.day() + number(1, 4));
            case "pass": return of(random.nextInt(4) > 0 ? 1 + random.nextInt(2) : number(1, 30));
            case "fill": case "credit": return of(number(0, 2), random.nextInt(3) > 0 ? 1 + random.nextInt(90) : number(1, 9999));
            case "win": case "tray": return of(number(0, 2));
            case "rule": return new Object[] {"dusnxDm".charAt(random.nextInt(7)), random.nextBoolean()};
            case "lay": return of(number(1, 2));
            case "cut": return of(random.nextInt(3) > 0 ? 1 + random.nextInt(51) : number(1, 103));
            case "riffle": return new Object[] {random.nextBoolean()};
            case "bet": return of(number(0, 2), guest(), stake(2, 1000));
            case "hit": case "stand": case "twice": case "split": case "surrender": return of(seat());
            case "cardAt": return of(number(0, 2), number(0, 1), number(0, 4));
            case "dealerAt": return of(number(0, 4));
            case "left": return of(number(1, 10));
            case "bustOver": case "bustUnder": return of(number(4, 21));
            case "dealerEnds": return of(number(17, 22));
            case "weigh": return of(number(1, 10), number(-3, 3));
            case "wager": return new Object[] {guest(), "nrbdx".charAt(random.nextInt(5)), number(0, random.nextBoolean() ? 2 : 36),
                stake(1, 500)};
            default: return moreArguments(name);
        }
    }

    private Object[] moreArguments(String name) {
        switch (name) {
            case "spin": return of(number(0, 36));
            case "stops": return of(number(0, 2), symbols());
            case "pays": return of(number(0, 4), random.nextInt(3) > 0 ? random.nextInt(6) : number(0, 200));
            case "bound": return of(random.nextInt(3) > 0 ? 1 + random.nextInt(30) : number(1, 5000));
            case "pull": return of(guest(), random.nextInt(3) > 0 ? stake(1, 100) : number(1, 100));
            case "stop": return of(100 * random.nextInt(8) + 10 * random.nextInt(8) + number(0, 7));
            case "ticket": return of(guest(), lotteryNumbers());
            case "draw": return of(lotteryNumbers());
            case "isSuspected": case "claim": case "money": case "chips": case "isBarred": case "staked": case "reports":
                return of(guest());
            case "ruinOver": case "ruinUnder": return of(number(0, 7), number(1, 14));
            default: return new Object[0];
        }
    }

    private int symbols() {
        if (random.nextInt(6) == 0) {
            return number(0, 44444444);
        }
        int symbols = 0;
        int most = 1 + random.nextInt(5);
        for (int i = 0; i < 8; i++) {
            symbols = 10 * symbols + random.nextInt(most);
        }
        return symbols;
    }

    private static Object[] of(Integer... numbers) {
        return numbers;
    }
}
