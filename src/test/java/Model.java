import java.math.BigInteger;
import java.util.ArrayDeque;
import java.util.ArrayList;
import java.util.List;

/**
 * The document a second time, in the whole of Java and in another way than the class: SLIPS as
 * classes that override one another, TEXTS as strings, a LINE that is gone anew for every number,
 * an IMAGE as a deep copy. It is here to be compared with the class by random runs.
 */
final class Model {
    /** An ERROR, told by its number. */
    private static final class Error extends RuntimeException {
        private static final long serialVersionUID = 1;
        final int number;

        Error(int number) {
            super(null, null, false, false);
            this.number = number;
        }
    }

    private static final int BEYOND = 1;
    private static final int NONE = 2;
    private static final int STATE = 3;
    private static final int FULL = 4;
    private static final int KIND = 5;
    private static final int PARTED = 6;

    private static void ask(boolean isSo, int error) {
        if (!isSo) {
            throw new Error(error);
        }
    }

    // ---- SLIPS, with what they do and say.

    static class Slip implements Cloneable {
        int k;
        int from;
        int to;
        int m;
        boolean on = true;
        List<Integer> said = new ArrayList<>();

        Slip copy() {
            try {
                return (Slip) clone();
            } catch (CloneNotSupportedException e) {
                throw new IllegalStateException(e);
            }
        }

        boolean spans(int mile) {
            return from <= mile && mile <= to;
        }

        int leans(int mile) {
            return 0;
        }

        int pushes(int mile, int swamp) {
            return 0;
        }

        int shortens(int mile, int slope) {
            return 0;
        }

        int sights(int x) {
            said.add(10);
            return x + k;
        }

        int chains(int x) {
            said.add(11);
            return sights(x) * 2;
        }

        int notes(int x) {
            said.add(12);
            return chains(x) - m;
        }

        int mends(int x) {
            said.add(13);
            ask(m != k, PARTED);
            return x / (m - k);
        }
    }

    static class Needle extends Slip {
        @Override
        int leans(int mile) {
            return mile == from ? m : 0;
        }

        @Override
        int sights(int x) {
            said.add(20);
            return super.sights(x) - 4;
        }

        @Override
        int mends(int x) {
            said.add(21);
            return super.mends(x) + chains(1);
        }
    }

    static class Chain extends Slip {
        @Override
        int shortens(int mile, int slope) {
            return spans(mile) ? m * (slope + 1) : 0;
        }

        @Override
        int chains(int x) {
            said.add(30);
            return 0 - super.chains(x);
        }
    }

    static final class Counted extends Chain {
        @Override
        int shortens(int mile, int slope) {
            return super.shortens(mile, slope) + (mile == from ? 66 : 0);
        }

        @Override
        int notes(int x) {
            said.add(40);
            return super.notes(x / 2);
        }

        @Override
        int chains(int x) {
            said.add(41);
            return super.chains(x) + k;
        }
    }

    static final class Handed extends Needle {
        @Override
        int leans(int mile) {
            return spans(mile) ? m : 0;
        }

        @Override
        int sights(int x) {
            said.add(50);
            return super.sights(x) * 3;
        }

        @Override
        int mends(int x) {
            said.add(51);
            return super.mends(x) - notes(0);
        }
    }

    static class Offset extends Slip {
        @Override
        int pushes(int mile, int swamp) {
            return spans(mile) && swamp > 0 ? m : 0;
        }

        @Override
        int notes(int x) {
            said.add(60);
            return super.notes(x) ^ m;
        }
    }

    static final class Made extends Offset {
        @Override
        int pushes(int mile, int swamp) {
            return super.pushes(mile, swamp) / 2;
        }

        @Override
        int shortens(int mile, int slope) {
            return spans(mile) ? m * 2 : 0;
        }

        @Override
        int notes(int x) {
            said.add(70);
            return super.notes(x + 1);
        }

        @Override
        int sights(int x) {
            said.add(71);
            return 6;
        }
    }

    private static final List<Class<? extends Slip>> KINDS = List.of(
            Slip.class, Needle.class, Chain.class, Counted.class, Handed.class, Offset.class, Made.class);

    private static Slip slipOf(int kind) {
        switch (kind) {
            case 0: return new Slip();
            case 1: return new Needle();
            case 2: return new Chain();
            case 3: return new Counted();
            case 4: return new Handed();
            case 5: return new Offset();
            default: return new Made();
        }
    }

    // ---- what an IMAGE keeps.

    private static final class All {
        int n = 12;
        int[] iron = new int[24];
        int[] slope = new int[24];
        int[] swamp = new int[24];
        int[] check = new int[24];
        int[] waver = new int[24];
        int stoneSide = 0;
        int stoneAlong = 12 * 1760;
        List<Slip> slips = new ArrayList<>();
        List<int[]> trees = new ArrayList<>();
        String tape = "";
        String[] laws = new String[2];
        List<Integer> waiting = new ArrayList<>();
        int z = 1;

        All copy() {
            All other = new All();
            other.n = n;
            other.iron = iron.clone();
            other.slope = slope.clone();
            other.swamp = swamp.clone();
            other.check = check.clone();
            other.waver = waver.clone();
            other.stoneSide = stoneSide;
            other.stoneAlong = stoneAlong;
            for (Slip slip : slips) {
                other.slips.add(slip.copy());
            }
            other.trees.addAll(trees);
            other.tape = tape;
            other.laws = laws.clone();
            other.waiting.addAll(waiting);
            other.z = z;
            return other;
        }

        int[] column(int what) {
            return new int[][] {iron, slope, swamp, check, waver}[what];
        }

        int leans(int mile) {
            return slips.stream().filter(s -> s.on).mapToInt(s -> s.leans(mile)).sum();
        }

        int pushes(int mile) {
            return slips.stream().filter(s -> s.on).mapToInt(s -> s.pushes(mile, swamp[mile])).sum();
        }

        int shortens(int mile) {
            return slips.stream().filter(s -> s.on).mapToInt(s -> s.shortens(mile, slope[mile])).sum();
        }

        int heading(int mile) {
            int start = mile;
            while (start > 0 && check[start] == 0) {
                start--;
            }
            int sum = 0;
            for (int i = start; i <= mile; i++) {
                sum += leans(i);
            }
            return sum;
        }

        int side(int post) {
            return post == 0 ? 0
                : side(post - 1) + heading(post - 1) + iron[post - 1] + pushes(post - 1) + waver[post - 1];
        }

        int along(int post) {
            return post == 0 ? 0 : along(post - 1) + 1760 - slope[post - 1] * 3 - shortens(post - 1);
        }

        int missSide() {
            return side(n) - stoneSide;
        }

        int missAlong() {
            return along(n) - stoneAlong;
        }

        int miss() {
            return Math.abs(missSide()) + Math.abs(missAlong());
        }

        int witnesses(int post) {
            return (int) trees.stream().filter(t -> t[0] == post).count();
        }

        int moving(int post) {
            if (laws[0] == null) {
                return 100 * post / n;
            }
            int v = new Evaluator(laws[0], "insat", post, n, missSide(), missAlong(), witnesses(post)).whole();
            return Math.max(0, Math.min(100, v));
        }

        int moved(int miss, int post) {
            return miss * moving(post) / 100;
        }

        int hours(int mile) {
            if (laws[1] == null) {
                return 8 + slope[mile] + swamp[mile] / 9 + 3 * check[mile];
            }
            int v = new Evaluator(laws[1], "ilwc", mile, slope[mile], swamp[mile], check[mile]).whole();
            return Math.max(0, Math.min(999, v));
        }
    }

    // ---- TEXTS: the value by cutting a sound text at its weakest sign, the FAULT by a stack of open signs.

    private static final class Evaluator {
        final String text;
        final String names;
        final int[] values;

        Evaluator(String text, String names, int... values) {
            this.text = text;
            this.names = names;
            this.values = values;
        }

        int whole() {
            return value(text);
        }

        /** Where the last of the signs stands outside of parentheses, or -1. */
        static int lastOf(String text, String signs) {
            int depth = 0;
            for (int i = text.length() - 1; i >= 0; i--) {
                char c = text.charAt(i);
                depth += c == ')' ? 1 : c == '(' ? -1 : 0;
                if (depth == 0 && signs.indexOf(c) >= 0) {
                    return i;
                }
            }
            return -1;
        }

        int value(String part) {
            for (String signs : new String[] {"|", "&", "<=>", "+-", "*/%"}) {
                int at = lastOf(part, signs);
                if (at >= 0) {
                    return joined(part.charAt(at), value(part.substring(0, at)), value(part.substring(at + 1)));
                }
            }
            if (part.startsWith("!")) {
                return value(part.substring(1)) == 0 ? 1 : 0;
            }
            if (part.startsWith("(")) {
                return value(part.substring(1, part.length() - 1));
            }
            int name = names.indexOf(part.charAt(0));
            return name >= 0 ? values[name] : Integer.parseInt(part);
        }

        static int joined(char sign, int a, int b) {
            switch (sign) {
                case '|': return a != 0 || b != 0 ? 1 : 0;
                case '&': return a != 0 && b != 0 ? 1 : 0;
                case '<': return a < b ? 1 : 0;
                case '=': return a == b ? 1 : 0;
                case '>': return a > b ? 1 : 0;
                case '+': return a + b;
                case '-': return a - b;
                case '*': return a * b;
                case '/': return b == 0 ? 0 : a / b;
                default: return b == 0 ? 0 : a % b;
            }
        }
    }

    /**
     * The FAULT, or -1. Open: '!' and '(' as they stand; of each level of parentheses it is kept
     * whether the present B has had its comparison.
     */
    static int fault(String text, String names) {
        ArrayDeque<Character> open = new ArrayDeque<>();
        ArrayDeque<Boolean> compared = new ArrayDeque<>();
        compared.push(false);
        boolean wantsOperand = true;
        int digits = 0;
        for (int i = 0; i < text.length(); i++) {
            char c = text.charAt(i);
            boolean isDigit = c >= '0' && c <= '9';
            if (wantsOperand) {
                if (c == '!' || c == '(') {
                    if (open.size() == 5) {
                        return i;
                    }
                    open.push(c);
                    if (c == '(') {
                        compared.push(false);
                    }
                    continue;
                }
                if (!isDigit && names.indexOf(c) < 0) {
                    return i;
                }
                wantsOperand = false;
                digits = isDigit ? 1 : 0;
            } else if (isDigit && digits >= 1 && digits < 4) {
                digits++;
            } else if (c == ')') {
                digits = 0;
                if (!open.contains('(')) {
                    return i;
                }
                open.pop();
                compared.pop();
            } else {
                digits = 0;
                if ("|&".indexOf(c) >= 0) {
                    compared.pop();
                    compared.push(false);
                } else if ("<=>".indexOf(c) >= 0) {
                    if (compared.pop()) {
                        return i;
                    }
                    compared.push(true);
                } else if ("+-*/%".indexOf(c) < 0) {
                    return i;
                }
                wantsOperand = true;
            }
            while (!wantsOperand && !open.isEmpty() && open.peek() == '!') {
                open.pop();
            }
        }
        return wantsOperand || !open.isEmpty() ? text.length() : -1;
    }

    // ---- the state of an object.

    private All now = new All();
    private All kept = null;
    private int images = 0;
    private List<Integer> trace = new ArrayList<>();
    private final int[][] sheets = new int[4][];
    private final int[] bits = new int[4];
    private final int[] told = new int[7];

    private static boolean in(long v, long least, long most) {
        return least <= v && v <= most;
    }

    /** The answer of a call by its name, as the document has it. */
    long call(String name, long[] a) {
        try {
            return answer(name, a);
        } catch (Error e) {
            told[e.number]++;
            return -1000000000L - e.number;
        }
    }

    private long answer(String name, long[] a) {
        int[] v = new int[a.length];
        for (int i = 0; i < a.length; i++) {
            v[i] = (int) a[i];
        }
        switch (name) {
            case "miles": {
                ask(in(v[0], 1, 24), BEYOND);
                int had = now.n;
                now.n = v[0];
                return had;
            }
            case "mile": {
                ask(in(v[0], 0, 23) && in(v[1], 0, 3), BEYOND);
                ask(in(v[2], v[1] == 0 ? -99 : 0, v[1] == 1 ? 9 : v[1] == 3 ? 1 : 99), BEYOND);
                int was = now.column(v[1])[v[0]];
                now.column(v[1])[v[0]] = v[2];
                return was;
            }
            case "mileIs": return mileIs(v[0], v[1]);
            case "stone":
                ask(in(v[0], -9999, 9999) && in(v[1], 0, 99999), BEYOND);
                now.stoneSide = v[0];
                now.stoneAlong = v[1];
                return 1;
            case "slip": return slip(v[0], v[1], v[2]);
            case "slipIs": {
                ask(in(v[0], 0, now.slips.size() - 1) && in(v[1], 0, 4), BEYOND);
                Slip slip = now.slips.get(v[0]);
                return new int[] {KINDS.indexOf(slip.getClass()), slip.from, slip.to, slip.m, slip.on ? 1 : 0}[v[1]];
            }
            case "as":
                ask(in(v[0], 0, now.slips.size() - 1) && in(v[1], 0, 6), BEYOND);
                ask(KINDS.get(v[1]).isInstance(now.slips.get(v[0])), KIND);
                return now.slips.get(v[0]).m;
            case "turn": {
                ask(in(v[0], 0, now.slips.size() - 1) && in(v[1], 0, 1), BEYOND);
                Slip slip = now.slips.get(v[0]);
                int was = slip.on ? 1 : 0;
                slip.on = v[1] == 1;
                return was;
            }
            case "does": {
                ask(in(v[0], 0, now.slips.size() - 1) && in(v[1], 0, 23) && in(v[2], 0, 2), BEYOND);
                Slip slip = now.slips.get(v[0]);
                return v[2] == 0 ? slip.leans(v[1]) : v[2] == 1
                    ? slip.pushes(v[1], now.swamp[v[1]]) : slip.shortens(v[1], now.slope[v[1]]);
            }
            case "feed": return feed(a[0], v[1]);
            case "text": return text(v[0]);
            case "untell": {
                ask(in(v[0], 0, 1), BEYOND);
                boolean was = now.laws[v[0]] != null;
                now.laws[v[0]] = null;
                return was ? 1 : 0;
            }
            default: return answerOfPosts(name, v);
        }
    }

    private long mileIs(int mile, int what) {
        ask(in(mile, 0, now.n - 1) && in(what, 0, 8), BEYOND);
        switch (what) {
            case 5: return now.hours(mile);
            case 6: return now.heading(mile);
            case 7: return now.pushes(mile);
            case 8: return now.shortens(mile);
            default: return now.column(what)[mile];
        }
    }

    private long slip(int kind, int ft, int m) {
        ask(in(kind, 0, 6) && in(m, -99, 99), BEYOND);
        boolean isSo = false;
        for (int from = 0; from < 24; from++) {
            for (int to = from; to < 24; to++) {
                isSo |= ft == 100 * from + to;
            }
        }
        ask(isSo, BEYOND);
        ask(now.slips.size() < 8, FULL);
        Slip slip = slipOf(kind);
        slip.k = now.slips.size();
        slip.from = ft / 100;
        slip.to = ft - 100 * slip.from;
        slip.m = m;
        now.slips.add(slip);
        return slip.k;
    }

    private long feed(long word, int n) {
        ask(in(n, 1, 8), BEYOND);
        ask(now.tape.length() + n <= 60, FULL);
        for (int i = 0; i < n; i++) {
            now.tape += (char) (word & 255);
            word >>= 8;
        }
        return now.tape.length();
    }

    private long text(int use) {
        ask(in(use, 0, 1), BEYOND);
        String text = now.tape;
        now.tape = "";
        int fault = fault(text, use == 0 ? "insat" : "ilwc");
        if (fault >= 0) {
            return -10 - fault;
        }
        now.laws[use] = text;
        return 1;
    }

    private long answerOfPosts(String name, int[] v) {
        switch (name) {
            case "post": {
                ask(in(v[0], 0, now.n) && in(v[1], 0, 5), BEYOND);
                int side = now.side(v[0]);
                int along = now.along(v[0]);
                return new int[] {side, along, side - now.moved(now.missSide(), v[0]),
                    along - now.moved(now.missAlong(), v[0]), now.moving(v[0]), now.witnesses(v[0])}[v[1]];
            }
            case "miss":
                ask(in(v[0], 0, 2), BEYOND);
                return new int[] {now.missSide(), now.missAlong(), now.miss()}[v[0]];
            case "wronged": {
                ask(in(v[0], 1, 9999), BEYOND);
                int bits = 0;
                for (int farm = 0; farm < now.n; farm++) {
                    for (int post = farm; post <= farm + 1; post++) {
                        if (Math.abs(now.moved(now.missSide(), post)) >= v[0]) {
                            bits |= 1 << farm;
                        }
                    }
                }
                return bits;
            }
            case "which": return which(v[0]);
            case "checks": return checks(v[0], v[1]);
            case "hours": {
                int sum = 0;
                for (int mile = 0; mile < now.n; mile++) {
                    sum += now.hours(mile);
                }
                return sum;
            }
            case "within": {
                ask(in(v[0], 0, 99999), BEYOND);
                int best = 0;
                int sum = 0;
                for (int many = 1; many <= now.n; many++) {
                    sum += now.hours(many - 1);
                    best = sum <= v[0] ? many : best;
                }
                return best;
            }
            default: return answerOfTheLine(name, v);
        }
    }

    private long which(int what) {
        ask(in(what, 0, 1), BEYOND);
        int best = -1;
        int left = Integer.MAX_VALUE;
        for (Slip slip : now.slips) {
            if (slip.on) {
                slip.on = false;
                if (now.miss() < left) {
                    left = now.miss();
                    best = slip.k;
                }
                slip.on = true;
            }
        }
        ask(best >= 0, NONE);
        return what == 0 ? best : left;
    }

    private long checks(int k, int what) {
        ask(in(k, 1, 2) && in(what, 0, 1), BEYOND);
        ask(now.n >= k, NONE);
        All tried = now.copy();
        int best = 0;
        int off = Integer.MAX_VALUE;
        for (int later = 0; later < now.n; later++) {
            for (int earlier = 0; earlier <= later; earlier++) {
                if (k == 1 == (earlier == later)) {
                    tried.check = new int[24];
                    tried.check[later] = 1;
                    tried.check[earlier] = 1;
                    int set = 1 << later | 1 << earlier;
                    int its = Math.abs(tried.missSide());
                    if (its < off || its == off && set < best) {
                        off = its;
                        best = set;
                    }
                }
            }
        }
        return what == 0 ? best : off;
    }

    private long answerOfTheLine(String name, int[] v) {
        int n = now.n;
        long above = 0;
        long below = 0;
        for (int i = 1; i <= n; i++) {
            above += (long) i * now.side(i);
            below += i * i;
        }
        switch (name) {
            case "leaning": {
                int best = 0;
                for (int mile = n - 1; mile >= 0; mile--) {
                    best = Math.abs(now.heading(mile)) >= Math.abs(now.heading(best)) ? mile : best;
                }
                return best;
            }
            case "straight": {
                ask(in(v[0], 0, 1), BEYOND);
                long by = BigInteger.valueOf(above).gcd(BigInteger.valueOf(below)).longValue();
                return v[0] == 0 ? above / by : below / by;
            }
            case "offIt": {
                int best = n;
                for (int i = n; i >= 1; i--) {
                    long its = Math.abs(now.side(i) * below - above * i);
                    best = its >= Math.abs(now.side(best) * below - above * best) ? i : best;
                }
                return best;
            }
            case "nearest": {
                ask(in(v[0], -99999, 99999) && in(v[1], 0, 99999), BEYOND);
                int best = 0;
                int least = Integer.MAX_VALUE;
                for (int i = 0; i <= n; i++) {
                    int its = Math.abs(now.side(i) - v[0]) + Math.abs(now.along(i) - v[1]);
                    if (its < least) {
                        least = its;
                        best = i;
                    }
                }
                return best;
            }
            case "crosses": {
                int crossed = 0;
                for (int i = 0; i < n; i++) {
                    crossed += Integer.signum(now.side(i)) * Integer.signum(now.side(i + 1)) < 0 ? 1 : 0;
                }
                return crossed;
            }
            default: return answerOfTrees(name, v);
        }
    }

    private long answerOfTrees(String name, int[] v) {
        switch (name) {
            case "tree": {
                ask(in(v[0], 1, 24) && in(v[1], 0, 5), BEYOND);
                int side = Math.floorDiv(v[2], 1000) - 100;
                int along = Math.floorMod(v[2], 1000) - 100;
                ask(in(side, -99, 99) && in(along, -99, 99), BEYOND);
                ask(now.trees.size() < 16, FULL);
                now.trees.add(new int[] {v[0], v[1], side, along});
                return now.trees.size() - 1;
            }
            case "treeIs": {
                ask(in(v[0], 0, now.trees.size() - 1) && in(v[1], 0, 5), BEYOND);
                int[] tree = now.trees.get(v[0]);
                ask(v[1] < 4 || tree[0] <= now.n, NONE);
                return v[1] < 4 ? tree[v[1]] : v[1] == 4 ? now.side(tree[0]) + tree[2] : now.along(tree[0]) + tree[3];
            }
            case "dig":
                ask(in(v[0], 0, now.trees.size() - 1) && in(v[3], 0, 1), BEYOND);
                return v[3] == 0 ? v[1] - now.trees.get(v[0])[2] : v[2] - now.trees.get(v[0])[3];
            case "sorts":
                ask(in(v[0], 0, 5), BEYOND);
                return now.trees.stream().filter(t -> t[1] == v[0]).count();
            case "waver":
                ask(in(v[0], 0, 23) && in(v[1], 1, 24) && in(v[2], 0, 99), BEYOND);
                for (int i = 0; i < v[1]; i++) {
                    if (v[0] + i < 24) {
                        now.z = now.z * 1103515245 + 12345;
                        now.waver[v[0] + i] = (now.z >>> 8) % (2 * v[2] + 1) - v[2];
                    }
                }
                return now.missSide();
            case "still": {
                int not = 0;
                for (int its : now.waver) {
                    not += its == 0 ? 0 : 1;
                }
                now.waver = new int[24];
                return not;
            }
            case "seed": {
                int was = now.z;
                now.z = v[0];
                return was;
            }
            default: return answerOfSheets(name, v);
        }
    }

    private long answerOfSheets(String name, int[] v) {
        switch (name) {
            case "voice": {
                ask(in(v[0], 0, now.slips.size() - 1) && in(v[1], 0, 3), BEYOND);
                Slip slip = now.slips.get(v[0]);
                slip.said = new ArrayList<>();
                trace = slip.said;
                return v[1] == 0 ? slip.sights(v[2]) : v[1] == 1 ? slip.chains(v[2])
                    : v[1] == 2 ? slip.notes(v[2]) : slip.mends(v[2]);
            }
            case "body":
                ask(in(v[0], 0, Math.min(trace.size(), 30) - 1), NONE);
                return trace.get(v[0]);
            case "sheet":
                ask(in(v[0], 0, 3) && (v[1] == 0 || v[1] == 8 || v[1] == 16 || v[1] == 32), BEYOND);
                ask(v[1] == 0 || v[2] >= 0, STATE);
                ask(v[1] == 0 || v[2] <= 24, BEYOND);
                sheets[v[0]] = v[1] == 0 ? null : new int[v[2]];
                bits[v[0]] = v[1];
                return 1;
            case "put":
                ask(in(v[0], 0, 3), BEYOND);
                ask(sheets[v[0]] != null, NONE);
                ask(in(v[1], 0, sheets[v[0]].length - 1), BEYOND);
                sheets[v[0]][v[1]] = v[2] << 32 - bits[v[0]] >> 32 - bits[v[0]];
                return 1;
            case "move": {
                ask(in(v[0], 0, 3) && in(v[2], 0, 3), BEYOND);
                int[] from = sheets[v[0]];
                int[] to = sheets[v[2]];
                ask(from != null && to != null, NONE);
                ask(bits[v[0]] == bits[v[2]], KIND);
                ask(v[4] >= 0 && v[1] >= 0 && v[3] >= 0, BEYOND);
                ask((long) v[1] + v[4] <= from.length && (long) v[3] + v[4] <= to.length, BEYOND);
                int[] were = from.clone();
                for (int i = 0; i < v[4]; i++) {
                    to[v[3] + i] = were[v[1] + i];
                }
                return v[4];
            }
            case "judge": {
                ask(in(v[0], 0, 3) && in(v[1], 0, 9999), BEYOND);
                ask(sheets[v[0]] != null, NONE);
                for (int post = 1; post <= sheets[v[0]].length; post++) {
                    long number = sheets[v[0]][post - 1];
                    if (post > now.n || number > now.side(post) + (long) v[1] || number < now.side(post) - (long) v[1]) {
                        return post;
                    }
                }
                return 0;
            }
            case "even": return even(v[0], v[1]);
            default: return answerOfImages(name, v);
        }
    }

    private long even(int sheet, int what) {
        ask(in(sheet, 0, 3) && in(what, 0, 1), BEYOND);
        ask(sheets[sheet] != null, NONE);
        StringBuilder signs = new StringBuilder();
        int ahead = 0;
        int stepAhead = 0;
        for (int i = 0; i < sheets[sheet].length; i++) {
            int step = sheets[sheet][i] - ahead;
            signs.append(i > 0 && step == stepAhead ? 'e' : '.');
            ahead = sheets[sheet][i];
            stepAhead = step;
        }
        return what == 0 ? signs.chars().filter(c -> c == 'e').count() : signs.indexOf("eee") >= 0 ? 1 : 0;
    }

    private long answerOfImages(String name, int[] v) {
        switch (name) {
            case "image":
                kept = now.copy();
                return ++images;
            case "restore":
                ask(kept != null, NONE);
                now = kept.copy();
                return now.n;
            case "tell":
                ask(now.waiting.size() < 24, FULL);
                now.waiting.add(v[0]);
                return now.waiting.size();
            case "check": {
                List<Integer> due = new ArrayList<>();
                for (int i = 1; i <= now.n; i++) {
                    due.add(now.side(i));
                }
                List<Integer> were = now.waiting;
                now.waiting = new ArrayList<>();
                int place = 0;
                while (place < due.size() && place < were.size() && were.get(place).equals(due.get(place))) {
                    place++;
                }
                return were.equals(due) ? 0 : 1 + place;
            }
            case "count": {
                ask(in(v[0], 0, 7), BEYOND);
                int checks = 0;
                for (int i = 0; i < now.n; i++) {
                    checks += now.check[i];
                }
                return new int[] {now.n, now.slips.size(), now.trees.size(), checks, now.tape.length(),
                    now.waiting.size(), Math.min(30, trace.size()), now.z}[v[0]];
            }
            case "told":
                ask(in(v[0], 1, 6), BEYOND);
                return told[v[0]];
            default:
                throw new IllegalArgumentException(name);
        }
    }
}
