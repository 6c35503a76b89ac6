import java.lang.reflect.Method;
import java.util.ArrayList;
import java.util.Arrays;
import java.util.Comparator;
import java.util.List;
import java.util.Random;

/** Runs of up to 512 calls drawn with fixed seeds, each answer compared with the Model's. */
public final class RandomRunsTest {
    private static final int RUNS = 400;
    private static final int CALLS = 512;
    /** A TEXT of 60 bytes is fed by eight calls and told by two; no other turn takes as many. */
    private static final int MOST_CALLS_OF_A_TURN = 10;
    private static final int[] EXTREMES = {
        Integer.MIN_VALUE, Integer.MIN_VALUE + 1, -1000000001, -100000, -10000, -100, -1, 0, 1, 24, 25, 60, 99, 100,
        128, 255, 256, 9999, 10000, 32767, 32768, 99999, 100000, Integer.MAX_VALUE - 1, Integer.MAX_VALUE
    };
    private static final String[] SOUND = {
        "i*9", "100-i*4", "(s>0)*100", "t*30", "i=n", "a%100", "!(t>0)*50", "i/2+1", "(i<n/2)*99", "w+l", "c*9+i",
        "l*l", "!c*5", "!(i>3)*7", "i*i*i*9999", "(w>50|l>4)*12", "0-i", "s*s%101", "n-i&t", "!!i+3"
    };

    /** What a run makes first, so that later calls have something to ask for. */
    private static final String[] MAKERS = {"slip", "tree", "sheet", "mile"};
    /** What is called seldom, for it takes away what others made. */
    private static final List<String> UNDOERS = List.of("image", "restore", "still", "untell", "check", "text");

    private final Random random;
    private final NeedleLine line = new NeedleLine();
    private final Model model = new Model();
    private final List<String> run = new ArrayList<>();
    private boolean isWild;

    private RandomRunsTest(long seed) {
        random = new Random(seed);
    }

    public static void main(String[] args) throws Exception {
        List<Method> methods = new ArrayList<>();
        for (Method method : NeedleLine.class.getDeclaredMethods()) {
            if (java.lang.reflect.Modifier.isPublic(method.getModifiers())) {
                methods.add(method);
            }
        }
        methods.sort(Comparator.comparing(Method::getName));
        for (int seed = 0; seed < RUNS; seed++) {
            new RandomRunsTest(seed).go(methods, seed);
        }
        Due.end();
    }

    private void go(List<Method> methods, int seed) throws Exception {
        boolean isAlike = true;
        while (isAlike && run.size() <= CALLS - MOST_CALLS_OF_A_TURN) {
            isWild = random.nextInt(seed % 10 == 0 ? 2 : 25) == 0;
            Method method = methods.get(random.nextInt(methods.size()));
            if (run.size() < 40) {
                method = called(methods, MAKERS[random.nextInt(MAKERS.length)]);
            }
            if (random.nextInt(25) == 0) {
                isAlike = feedText(called(methods, "feed"), called(methods, "text"));
            } else if (!UNDOERS.contains(method.getName()) || random.nextInt(8) == 0) {
                isAlike = compare(method, arguments(method));
            }
            if (isAlike && method.getName().equals("voice")) {
                isAlike = compareTrace(called(methods, "count"), called(methods, "body"));
            }
        }
        if (!isAlike) {
            report(seed);
        }
    }

    private static Method called(List<Method> methods, String name) {
        for (Method method : methods) {
            if (method.getName().equals(name)) {
                return method;
            }
        }
        throw new IllegalArgumentException(name);
    }

    private boolean compare(Method method, long[] args) throws Exception {
        Object[] boxed = new Object[args.length];
        for (int i = 0; i < args.length; i++) {
            boxed[i] = method.getParameterTypes()[i] == long.class ? (Object) args[i] : (Object) (int) args[i];
        }
        String call = method.getName() + Arrays.toString(args);
        run.add(call);
        long got = ((Number) method.invoke(line, boxed)).longValue();
        long want = model.call(method.getName(), args);
        Due.due(call, got, want);
        return got == want;
    }

    /** THE TRACE right behind a VOICE: how many BODIES, and one of the first or one too many. */
    private boolean compareTrace(Method count, Method body) throws Exception {
        return compare(count, of(6)) && compare(body, of(from(0, line.count(6))));
    }

    private void report(int seed) {
        System.out.println("run " + seed + ", call " + run.size() + ": " + String.join(" ",
                run.subList(Math.max(0, run.size() - 40), run.size())));
    }

    private int pick(int... of) {
        return of[random.nextInt(of.length)];
    }

    private int from(int least, int most) {
        return least + random.nextInt(most - least + 1);
    }

    /** Mostly an argument in its bounds or one beside them, as the document has them. */
    private int near(int least, int most) {
        return isWild && random.nextInt(2) == 0
            ? pick(least - 1, most + 1, EXTREMES[random.nextInt(EXTREMES.length)], random.nextInt())
            : from(least, most);
    }

    private long[] arguments(Method method) {
        switch (method.getName()) {
            case "miles": return of(random.nextInt(3) == 0 ? near(1, 24) : near(5, 14));
            case "mile": return mileArguments();
            case "mileIs": return of(near(0, 12), near(0, 8));
            case "stone": return of(near(-300, 300), near(15000, 25000));
            case "slip": return of(near(0, 6), 100 * near(0, 12) + near(6, 23), random.nextInt(4) == 0 ? near(0, 7) : near(-99, 99));
            case "slipIs": return of(near(0, 7), near(0, 4));
            case "as": return of(near(0, 7), near(0, 6));
            case "turn": return of(near(0, 7), near(0, 1));
            case "does": return of(near(0, 7), near(0, 23), near(0, 2));
            case "feed": return of(random.nextLong(), near(1, 8));
            case "text": case "untell": return of(near(0, 1));
            case "post": return of(near(0, 12), near(0, 5));
            case "miss": case "which": case "straight": return of(near(0, 1));
            case "wronged": return of(near(1, 60));
            case "checks": return of(near(1, 2), near(0, 1));
            case "within": return of(near(0, 200));
            case "nearest": return of(near(-500, 500), near(0, 25000));
            case "tree": return of(near(1, 24), near(0, 5), 1000 * near(1, 199) + near(1, 199));
            case "treeIs": return of(near(0, 15), near(0, 5));
            case "dig": return of(near(0, 15), random.nextInt(), near(-99, 99), near(0, 1));
            case "sorts": return of(near(0, 5));
            case "waver": return of(near(0, 23), near(1, 24), near(0, 99));
            case "seed": return of(random.nextInt());
            case "voice": return of(near(0, 7), near(0, 3), pick(near(-20, 20), random.nextInt()));
            case "body": return of(near(0, 14));
            case "sheet": return of(near(0, 3), isWild ? near(0, 33) : pick(8, 8, 16, 32, 32, 0), near(0, 24));
            case "put": return of(near(0, 3), near(0, 12), number());
            case "move": return of(near(0, 3), near(0, 6), near(0, 3), near(0, 6), near(0, 6));
            case "judge": return of(near(0, 3), pick(0, 10, 9999, near(0, 9999)));
            case "even": return of(near(0, 3), near(0, 1));
            case "tell": return of(number());
            case "count": return of(near(0, 7));
            case "told": return of(near(1, 6));
            default: return of();
        }
    }

    private long[] mileArguments() {
        int what = near(0, 3);
        int most = what == 1 ? 9 : what == 3 ? 1 : 99;
        return of(near(0, 23), what, near(what == 0 ? -99 : 0, most));
    }

    /** A SIDE that a POST has, often; a number of a few steps, or any. */
    private int number() {
        int post = random.nextInt(line.count(0) + 1);
        return pick(line.post(post, 0), 10 * random.nextInt(4), random.nextInt(6), random.nextInt());
    }

    private static long[] of(long... args) {
        return args;
    }

    /** Feeds a TEXT, sound or nearly so, and has it told; false if an answer was not the Model's. */
    private boolean feedText(Method feed, Method text) throws Exception {
        int use = random.nextInt(2);
        boolean isAlike = compare(text, of(use));
        String bytes = random.nextInt(3) == 0 ? SOUND[random.nextInt(SOUND.length)] : drawn(use == 0 ? "iinsat" : "iilwc");
        for (int at = 0; at < bytes.length() && isAlike; at += 8) {
            long word = random.nextLong();
            int n = Math.min(8, bytes.length() - at);
            for (int i = 0; i < n; i++) {
                word = word & ~(255L << 8 * i) | (long) bytes.charAt(at + i) << 8 * i;
            }
            isAlike = compare(feed, of(word, n));
        }
        return isAlike && compare(text, of(use));
    }

    private String drawn(String names) {
        StringBuilder text = new StringBuilder();
        draw(text, names, 0);
        if (random.nextInt(4) == 0 && text.length() > 0) {
            text.setCharAt(random.nextInt(text.length()), "|&<=>+-*/%!()019insatlwc x".charAt(random.nextInt(26)));
        }
        if (random.nextInt(8) == 0) {
            text.setLength(random.nextInt(text.length() + 1));
        }
        text.setLength(Math.min(60, text.length()));
        return text.toString();
    }

    private void draw(StringBuilder text, String names, int deep) {
        for (int part = pick(1, 1, 2, 2, 3, 5); part > 0; part--) {
            for (int not = random.nextInt(6) == 0 ? from(1, 4) : 0; not > 0; not--) {
                text.append('!');
            }
            if (random.nextInt(4) == 0 && deep < 6) {
                text.append('(');
                draw(text, names, deep + 1);
                text.append(')');
            } else if (random.nextBoolean()) {
                text.append(random.nextInt(pick(10, 10, 100, 1000, 10000, 20000)));
            } else {
                text.append(names.charAt(random.nextInt(names.length())));
            }
            if (part > 1) {
                text.append("|&<=>+-*/%+-*".charAt(random.nextInt(13)));
            }
        }
    }
}
