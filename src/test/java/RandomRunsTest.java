import java.lang.reflect.InvocationTargetException;
import java.lang.reflect.Method;
import java.util.ArrayList;
import java.util.List;
import java.util.Map;
import java.util.Random;
import java.util.TreeMap;

/** Long runs of drawn calls, always the same ones, on Archivepress and on PlainOffice. */
public final class RandomRunsTest {
    private static final int RUNS = 3000;
    private static final int CALLS = 512;

    /** Each call of the face with the kinds of its arguments. */
    private static final String[] CALLS_OF_FACE = {
        "addDocument", "addLine document value", "rescan line value", "documentOf line", "indexOf line",
        "lines document", "addRule value value last", "addSpan document index index last", "lift span",
        "isHidden line", "hidden", "addJoin line line line", "holds asker line", "holdsByLog asker line",
        "held asker", "given asker", "holders line", "why asker line", "root asker line",
        "causes asker line", "request asker document", "state request", "answer request",
        "withdraw request", "setPrice price", "owed asker", "pay asker sum", "pass days", "day", "late",
        "fees", "answeredShare"};
    /** What half of the runs begin with: joins early, and something given, so that joins can tell more. */
    private static final String[] BEGINNING = {
        "addDocument", "addDocument", "addDocument", "addLine document value", "addLine document value",
        "addLine document value", "addLine document value", "addLine document value",
        "addLine document value", "addLine document value", "addLine document value",
        "addJoin line line line", "addJoin line line line", "addJoin line line line",
        "addJoin line line line", "addJoin line line line", "addJoin line line line",
        "addRule value value last", "addSpan document index index last",
        "request asker document", "answer request"};
    /** What these runs go on with: each call as often as its number tells. */
    private static final String[] CAUSES_BAG = {
        "8 why asker line", "8 root asker line", "8 causes asker line", "8 rescan line value",
        "1 request asker document", "2 answer request", "1 withdraw request", "2 pass days",
        "1 addRule value value last", "1 addSpan document index index last", "1 lift span",
        "1 addJoin line line line", "1 addLine document value", "2 holds asker line",
        "2 holdsByLog asker line", "1 held asker", "1 given asker", "1 holders line", "1 isHidden line",
        "1 hidden", "1 owed asker", "1 pay asker sum", "1 fees"};
    private static final int[] WEIGHTS = {0, 1, 1, 2, 4, 8};
    private static final int[] FAR = {Integer.MIN_VALUE, Integer.MAX_VALUE, -100, 100000};

    private static final Map<String, Integer> seen = new TreeMap<>();
    private static int wrong;

    private final Random random;
    private final Archivepress office = new Archivepress();
    private final PlainOffice plain = new PlainOffice();
    private final List<String> bag = new ArrayList<>();
    private final List<String> told = new ArrayList<>();
    private final int greatestValue;
    private final boolean aboutCauses;

    private RandomRunsTest(int run) {
        random = new Random(run);
        greatestValue = random.nextInt(4) == 0 ? 9999 : 30;
        aboutCauses = random.nextBoolean();
        if (aboutCauses) {
            for (String call : CAUSES_BAG) {
                putInBag(call.substring(2), call.charAt(0) - '0');
            }
            return;
        }
        for (String call : CALLS_OF_FACE) {
            putInBag(call, WEIGHTS[random.nextInt(WEIGHTS.length)]);
        }
        putInBag("addDocument", 1);
        putInBag("addLine document value", 1);
    }

    private void putInBag(String call, int times) {
        for (int i = 0; i < times; i++) {
            bag.add(call);
        }
    }

    public static void main(String[] args) throws ReflectiveOperationException {
        for (int run = 0; run < RUNS && wrong == 0; run++) {
            new RandomRunsTest(run).go(run);
        }
        // A kind of answer that never came would leave its promise untested without a word.
        for (String answer : ANSWERS_TO_BE_SEEN) {
            if (!seen.containsKey(answer)) {
                wrong++;
                System.out.println("RandomRunsTest: no run answered " + answer);
            }
        }
        System.out.println("RandomRunsTest: " + RUNS + " runs, " + wrong + " wrong");
        if (wrong != 0) {
            System.exit(1);
        }
    }

    private static final String[] ANSWERS_TO_BE_SEEN = {
        "addDocument throws.java.lang.IllegalStateException", "addLine throws.java.lang.IllegalStateException",
        "addRule throws.java.lang.IllegalStateException", "addSpan throws.java.lang.IllegalStateException",
        "addJoin throws.java.lang.IllegalStateException", "request throws.java.lang.IllegalStateException",
        "request throws.java.lang.UnsupportedOperationException",
        "lift throws.java.lang.IllegalStateException", "answer throws.java.lang.IllegalStateException",
        "withdraw throws.java.lang.IllegalStateException", "why throws.java.lang.IllegalStateException",
        "root throws.java.util.NoSuchElementException", "answeredShare throws.java.util.NoSuchElementException",
        "pass throws.java.lang.IllegalArgumentException", "why r", "why s", "why j", "why -", "root r", "root s",
        "causes 0", "causes 1", "causes 2", "causes 3", "state w", "state a", "state x"};

    private void go(int run) throws ReflectiveOperationException {
        for (int i = 0; i < CALLS; i++) {
            boolean beginning = aboutCauses && i < BEGINNING.length;
            String drawn = beginning ? BEGINNING[i] : bag.get(random.nextInt(bag.size()));
            String[] call = drawn.split(" ");
            Object[] arguments = new Object[call.length - 1];
            for (int a = 0; a < arguments.length; a++) {
                arguments[a] = draw(call[a + 1], arguments, a);
            }
            String due = answer(plain, call[0], arguments);
            String got = answer(office, call[0], arguments);
            told.add(call[0] + List.of(arguments) + " " + got);
            seen.merge(call[0] + " " + got, 1, Integer::sum);
            if (!due.equals(got)) {
                wrong++;
                System.out.println("RandomRunsTest, run " + run + ", due at last is " + due);
                told.forEach(System.out::println);
                return;
            }
        }
    }

    private static String answer(Object on, String name, Object[] arguments) throws ReflectiveOperationException {
        Class<?>[] types = new Class<?>[arguments.length];
        java.util.Arrays.fill(types, int.class);
        Method method = on.getClass().getMethod(name, types);
        method.setAccessible(true);
        try {
            return String.valueOf(method.invoke(on, arguments));
        } catch (InvocationTargetException e) {
            return "throws." + e.getCause().getClass().getName();
        }
    }

    private int draw(String kind, Object[] before, int a) {
        if (random.nextInt(60) == 0) {
            return FAR[random.nextInt(FAR.length)];
        }
        switch (kind) {
            case "document": return number(plain.documents.size());
            case "line": return number(plain.lines.size());
            case "span": return number(plain.spans.size());
            case "request": return number(plain.requests.size());
            case "asker": return random.nextInt(3) == 0 ? number(5) : random.nextInt(2);
            case "value": return upTo(greatestValue, 9999, before, a);
            case "index": return upTo(12, 39, before, a);
            case "last": return last();
            case "price": return random.nextInt(12) == 0 ? random.nextInt(102) - 1 : random.nextInt(20);
            case "sum": return random.nextInt(3) == 0 ? random.nextInt(200) - 1 : 1 + random.nextInt(20);
            case "days": return random.nextInt(4) == 0 ? random.nextInt(94) - 1 : 1 + random.nextInt(12);
            default: throw new IllegalStateException(kind);
        }
    }

    /** A number that is there, or at times the one before the first or after the last. */
    private int number(int size) {
        if (size == 0 || random.nextInt(25) == 0) {
            return random.nextBoolean() ? -1 : size;
        }
        return random.nextInt(size);
    }

    /** Mostly a little more than the argument before it, as the second end of a range. */
    private int upTo(int common, int greatest, Object[] before, int a) {
        if (random.nextInt(20) == 0) {
            return random.nextInt(4) == 0 ? -1 : greatest + random.nextInt(3) - 1;
        }
        if (a > 0 && random.nextInt(8) != 0) {
            return (Integer) before[a - 1] + random.nextInt(common / 10 + 2);
        }
        return random.nextInt(common + 1);
    }

    private int last() {
        if (random.nextInt(20) == 0) {
            return 9998 + random.nextInt(3);
        }
        return plain.day - 1 + random.nextInt(aboutCauses ? 200 : 30);
    }
}
