import java.lang.reflect.Method;
import java.util.ArrayList;
import java.util.Arrays;
import java.util.HashSet;
import java.util.List;
import java.util.Random;
import java.util.Set;

/** Runs of calls drawn from fixed seeds, each answer and status held against PlainSheet. */
public final class RandomRunsTest {
    private static final String[] BUILDING = {
        "value", "free", "test", "testValue", "rule", "rule", "rule", "rule", "typed", "typed", "typed", "stack"};
    private static final String[] CHANGING = {
        "make", "make", "make", "make", "spell", "turn", "spend", "spend", "rest", "act", "act", "sheet", "cell",
        "cell", "cell", "row", "row", "forge", "forge", "free", "stack"};
    private static final String[] KEEPING = {"image", "back", "back"};
    private static final String[] ASKING = {
        "valueTold", "number", "number", "ruleTold", "ruleTold", "ruleTold", "amount", "ring", "needs", "choice",
        "lawful", "mend", "most", "seek", "both", "way", "dice", "chance", "count", "trace", "status"};

    private static final Set<String> QUESTIONS = new HashSet<>(Arrays.asList(ASKING));
    private static final int MOST_CALLS = 512;

    private final Random random;
    private final HeroSheet hero = new HeroSheet();
    private final PlainSheet plain = new PlainSheet();
    private final List<String> told = new ArrayList<>();
    private final int questions;
    private final int keeping;
    private final int fewValues;
    private static final Method[] HERO = HeroSheet.class.getDeclaredMethods();
    private static final Method[] PLAIN = PlainSheet.class.getDeclaredMethods();

    private RandomRunsTest(long seed) {
        random = new Random(seed);
        questions = random.nextInt(3);
        keeping = random.nextInt(4) == 0 ? 5 : 60;
        fewValues = random.nextBoolean() ? 10 : 1 + random.nextInt(4);
    }

    public static void main(String[] args) throws Exception {
        int from = args.length > 0 ? Integer.parseInt(args[0]) : 0;
        int runs = args.length > 1 ? Integer.parseInt(args[1]) : 150;
        int wrong = 0;
        for (int seed = from; seed < from + runs; seed++) {
            wrong += new RandomRunsTest(seed).isRight(seed) ? 0 : 1;
        }
        System.out.println("random runs: " + runs + ", wrong: " + wrong);
        if (wrong > 0) {
            System.exit(1);
        }
    }

    private boolean isRight(int seed) throws Exception {
        int most = 20 + random.nextInt(MOST_CALLS - 20);
        int first = 2 + random.nextInt(12);
        int building = first + random.nextInt(70);
        int calls = 0;
        for (int i = 0; calls < most; i++) {
            String name = i < first ? (plain.count(0) <= fewValues && coinOf(3) ? "value" : "free") : drawName(i < building);
            Object[] arguments = drawArguments(name);
            told.add(name + Arrays.toString(arguments));
            long got = call(HERO, hero, name, arguments);
            long due = call(PLAIN, plain, name, arguments);
            calls++;
            // Every call counts, so the status is asked where it may have changed, and seldom elsewhere.
            boolean asks = calls < most && (!QUESTIONS.contains(name) || random.nextInt(9) == 0);
            calls += asks ? 1 : 0;
            int gotStatus = asks ? hero.status() : 0;
            int dueStatus = asks ? plain.status() : 0;
            if (got != due || gotStatus != dueStatus) {
                told.forEach(System.out::println);
                System.out.println("seed " + seed + ": answered " + got + ", due is " + due
                    + "; status " + gotStatus + ", due is " + dueStatus);
                return false;
            }
        }
        return true;
    }

    private static long call(Method[] methods, Object on, String name, Object[] arguments) throws Exception {
        for (Method m : methods) {
            if (m.getName().equals(name) && m.getParameterCount() == arguments.length) {
                m.setAccessible(true);
                return ((Number) m.invoke(on, arguments)).longValue();
            }
        }
        throw new IllegalStateException(name);
    }

    private String drawName(boolean building) {
        int kind = random.nextInt(10);
        if (!building && random.nextInt(keeping) == 0) {
            return KEEPING[random.nextInt(KEEPING.length)];
        }
        String[] names = building ? (kind < 8 ? BUILDING : CHANGING)
            : kind < 2 ? BUILDING : kind < 4 + questions ? CHANGING : ASKING;
        String name = names[random.nextInt(names.length)];
        return name.equals("value") && plain.count(0) > fewValues ? "test" : name;
    }

    private boolean coinOf(int sides) {
        return random.nextInt(sides) > 0;
    }

    private int upTo(int most) {
        return random.nextInt(most + 1);
    }

    private int between(int from, int to) {
        return from + random.nextInt(to - from + 1);
    }

    private int edge(int n) {
        switch (random.nextInt(120)) {
            case 0: return -1;
            case 1: return -2;
            case 2: return Integer.MAX_VALUE;
            case 3: return Integer.MIN_VALUE;
            case 4: return n + 1;
            case 5: return n - 1;
            default: return n;
        }
    }

    private int aValue() {
        return edge(random.nextInt(Math.max(1, plain.count(0))));
    }

    private int aValueOf(int kind) {
        for (int tries = 0; tries < 9; tries++) {
            int v = aValue();
            if (plain.valueTold(v, 0) == kind) {
                return v;
            }
        }
        return aValue();
    }

    private int aRule() {
        return edge(random.nextInt(Math.max(1, plain.count(1))));
    }

    private int aChoice() {
        return edge(random.nextInt(8));
    }

    private int aSet() {
        switch (random.nextInt(4)) {
            case 0: return edge(random.nextInt(256));
            case 1: return edge(plain.mend());
            case 2: return edge(1 << random.nextInt(8));
            default: return edge(random.nextInt(256) & random.nextInt(256));
        }
    }

    private int aDie() {
        int count = random.nextInt(20) == 0 ? upTo(7) : between(1, 3);
        return edge(count + 8 * (random.nextInt(20) == 0 ? upTo(13) : between(2, 8)));
    }

    private int anAmount() {
        return edge(random.nextInt(10) == 0 ? between(-1001, 1001) : between(-6, 6));
    }

    private int aBy() {
        return random.nextInt(3) > 0 ? -1 : edge(random.nextInt(Math.max(1, plain.count(0))) + 16 * between(1, 9));
    }

    private int aMore() {
        int rank = random.nextInt(15) == 0 ? upTo(15) : upTo(2);
        int source = random.nextInt(15) == 0 ? upTo(22) : random.nextBoolean() ? 0 : upTo(3);
        return edge(rank + 16 * source);
    }

    private static Object[] of(Object... arguments) {
        return arguments;
    }

    private Object[] drawArguments(String name) {
        boolean coin = random.nextBoolean();
        switch (name) {
            case "value": return of(edge(upTo(4)), edge(random.nextInt(9) == 0 ? between(-100, 100) : between(-9, 9)),
                aDie());
            case "free": case "make": return of(aChoice(), coinOf(4));
            case "test": return of(edge(coin ? upTo(2) : between(1, 2)), aChoice());
            case "testValue": return of(aValue(), coin, anAmount());
            case "rule": {
                int kind = edge(coin ? upTo(7) : between(5, 6));
                int aim = kind == 4 ? aRule() : kind == 5 || kind == 6 ? aChoice() : aValue();
                return of(kind, aim, aMore(), anAmount(), aBy());
            }
            case "typed": return of(edge(between(1, random.nextInt(5) == 0 ? 5 : 2)), aValue(), aMore(), anAmount(),
                aBy());
            case "stack": return of(edge(between(1, 5)), coin);
            case "spell": return of(aValue(), edge(between(-20, 20)), edge(between(1, coin ? 3 : 20)));
            case "spend": return of(aValueOf(2), edge(between(1, coin ? 3 : 1000)));
            case "valueTold": return of(aValue(), edge(upTo(5)));
            case "number": return of(aValue(), aSet());
            case "ruleTold": return of(aRule(), edge(coin ? between(5, 8) : upTo(8)));
            case "amount": return of(aRule());
            case "ring": case "trace": return of(edge(upTo(9)));
            case "needs": case "both": return of(aValue(), aValue());
            case "choice": return of(aChoice(), edge(upTo(2)));
            case "lawful": return of(aSet());
            case "most": case "seek": return of(aValue(), edge(aSet() & upTo(255) & upTo(255)),
                edge(upTo(255) & upTo(255) & upTo(255)), coin);
            case "way": return of(coin ? aSet() : edge(plain.mend()), edge(coinOf(4) ? upTo(2) : upTo(8)));
            case "dice": return of(aValueOf(3), edge(upTo(3)));
            case "chance": return of(aValueOf(3), edge(between(-10, 40)), coin, edge(upTo(1)));
            case "count": return of(edge(upTo(8)));
            case "act": return of(aRule(), edge(upTo(3)), coin ? random.nextInt() : edge(between(-20, 20)));
            case "sheet": return of(edge(upTo(3)), edge(between(-1, 2)), edge(random.nextInt(5) == 0 ? upTo(41) : upTo(7)));
            case "cell": return of(edge(upTo(3)), edge(upTo(6)), edge(coin ? upTo(9) : between(-1001, 1001)));
            case "row": return of(edge(upTo(3)), edge(upTo(2)), edge(upTo(3)));
            case "forge": return of(edge(upTo(6)), edge(coin ? upTo(6) : between(-101, 101)),
                edge(coin ? upTo(8) : between(-101, 101)));
            default: return of();
        }
    }
}
