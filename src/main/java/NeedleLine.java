/**
 * A line gone by needle through a forest, mile by mile: slips that lead it astray, posts where it
 * went, texts that say how posts are moved, trees that witness them, notebooks and images.
 *
 * What each method must do is said in ../shared/DOC.md under the promise of its name; the words in
 * capitals are explained there.
 */
public final class NeedleLine {
    private static final int LOW = -1000000000;

    // ERRORS, as LOW less one of these.
    private static final int BEYOND = 1;
    private static final int NONE = 2;
    private static final int STATE = 3;
    private static final int FULL = 4;
    private static final int UNLIKE = 5;
    private static final int PARTED = 6;
    private static final int ERRORS = 6;

    private static final int MOST_MILES = 24;
    private static final int MOST_SLIPS = 8;
    private static final int MOST_TREES = 16;
    private static final int MOST_BYTES = 60;
    private static final int MOST_WAITING = 24;
    private static final int MOST_NUMBERS = 24;
    private static final int MOST_BODIES = 30;
    private static final int SHEETS = 4;
    private static final int SORTS = 6;
    private static final int USES = 2;
    private static final int YARDS = 1760;
    private static final int NO_SLIP = -1;

    // What a MILE has, as columns of the MILES.
    private static final int IRON = 0;
    private static final int SLOPE = 1;
    private static final int SWAMP = 2;
    private static final int CHECK = 3;
    private static final int WAVER = 4;
    private static final int[] LEAST_OF_MILE = {-99, 0, 0, 0};
    private static final int[] MOST_OF_MILE = {99, 9, 99, 1};

    // What a SLIP has, as columns of the SLIPS.
    private static final int SLIP_KIND = 0;
    private static final int SLIP_FROM = 1;
    private static final int SLIP_TO = 2;
    private static final int SLIP_M = 3;
    private static final int SLIP_ON = 4;

    // What a TREE has, as columns of the TREES.
    private static final int TREE_POST = 0;
    private static final int TREE_SORT = 1;
    private static final int TREE_SIDE = 2;
    private static final int TREE_ALONG = 3;

    // KINDS of SLIPS (0, SLIP, does nothing and is never asked for by name).
    private static final int NEEDLE = 1;
    private static final int CHAIN = 2;
    private static final int COUNTED = 3;
    private static final int HANDED = 4;
    private static final int OFFSET = 5;
    private static final int MADE = 6;
    private static final int KINDS = 7;
    private static final int NO_KIND = -1;
    private static final int[] KIND_ABOVE = {NO_KIND, 0, 0, CHAIN, NEEDLE, 0, OFFSET};

    // VOICES, and the BODY that a KIND has for each of them (KIND times 4, and VOICE; 0: none).
    private static final int SIGHTS = 0;
    private static final int CHAINS = 1;
    private static final int NOTES = 2;
    private static final int MENDS = 3;
    private static final int VOICES = 4;
    private static final int[] BODIES = {
        10, 11, 12, 13,
        20, 0, 0, 21,
        0, 30, 0, 0,
        0, 41, 40, 0,
        50, 0, 0, 51,
        0, 0, 60, 0,
        71, 0, 70, 0
    };

    private final State now = new State();
    private final State kept = new State();
    private final Walk walk = new Walk();
    private final Parser parser = new Parser();
    private final Speaker speaker = new Speaker();
    private final Sheet[] sheets = new Sheet[SHEETS];
    private final int[] errors = new int[ERRORS + 1];
    private final int[] names = new int[5];
    private final int[] stack = new int[MOST_BYTES];
    private int images = 0;

    public NeedleLine() {
        for (int i = 0; i < sheets.length; i++) {
            sheets[i] = new Sheet();
        }
    }

    // ---- miles, slips.

    public int miles(int n) {
        if (!isIn(n, 1, MOST_MILES)) {
            return fail(BEYOND);
        }
        int had = now.miles.used();
        now.miles.use(n);
        return had;
    }

    public int mile(int mile, int what, int v) {
        if (!isIn(mile, 0, MOST_MILES - 1) || !isIn(what, IRON, CHECK)
                || !isIn(v, LEAST_OF_MILE[what], MOST_OF_MILE[what])) {
            return fail(BEYOND);
        }
        int was = now.miles.at(what, mile);
        now.miles.set(what, mile, v);
        return was;
    }

    public int mileIs(int mile, int what) {
        if (!now.miles.has(mile) || !isIn(what, 0, 8)) {
            return fail(BEYOND);
        }
        if (what <= WAVER) {
            return now.miles.at(what, mile);
        }
        walk.go(now, NO_SLIP);
        switch (what) {
            case 5:
                return hoursOf(mile);
            case 6:
                return walk.headingIn(mile);
            case 7:
                return walk.pushesIn(mile);
            default:
                return walk.shortensIn(mile);
        }
    }

    public int stone(int side, int along) {
        if (!isIn(side, -9999, 9999) || !isIn(along, 0, 99999)) {
            return fail(BEYOND);
        }
        now.stoneSide = side;
        now.stoneAlong = along;
        return 1;
    }

    public int slip(int kind, int ft, int m) {
        int from = ft / 100;
        int to = ft % 100;
        if (!isIn(kind, 0, KINDS - 1) || !isIn(m, -99, 99)
                || !isIn(from, 0, MOST_MILES - 1) || !isIn(to, from, MOST_MILES - 1)) {
            return fail(BEYOND);
        }
        if (now.slips.isFull()) {
            return fail(FULL);
        }
        int slip = now.slips.add(kind);
        now.slips.set(SLIP_FROM, slip, from);
        now.slips.set(SLIP_TO, slip, to);
        now.slips.set(SLIP_M, slip, m);
        now.slips.set(SLIP_ON, slip, 1);
        return slip;
    }

    public int slipIs(int slip, int what) {
        if (!now.slips.has(slip) || !isIn(what, SLIP_KIND, SLIP_ON)) {
            return fail(BEYOND);
        }
        return now.slips.at(what, slip);
    }

    public int as(int slip, int kind) {
        if (!now.slips.has(slip) || !isIn(kind, 0, KINDS - 1)) {
            return fail(BEYOND);
        }
        return now.slips.isOf(slip, kind) ? now.slips.at(SLIP_M, slip) : fail(UNLIKE);
    }

    public int turn(int slip, int on) {
        if (!now.slips.has(slip) || !isIn(on, 0, 1)) {
            return fail(BEYOND);
        }
        int was = now.slips.at(SLIP_ON, slip);
        now.slips.set(SLIP_ON, slip, on);
        return was;
    }

    public int does(int slip, int mile, int what) {
        if (!now.slips.has(slip) || !isIn(mile, 0, MOST_MILES - 1) || !isIn(what, 0, 2)) {
            return fail(BEYOND);
        }
        switch (what) {
            case 0:
                return now.slips.leansAt(slip, mile);
            case 1:
                return now.slips.pushesAt(slip, mile, now.miles.at(SWAMP, mile));
            default:
                return now.slips.shortensAt(slip, mile, now.miles.at(SLOPE, mile));
        }
    }

    // ---- texts.

    public int feed(long word, int n) {
        if (!isIn(n, 1, 8)) {
            return fail(BEYOND);
        }
        if (now.tape.used() + n > MOST_BYTES) {
            return fail(FULL);
        }
        for (int i = 0; i < n; i++) {
            now.tape.add((int) (word >>> (8 * i)) & 255);
        }
        return now.tape.used();
    }

    public int text(int use) {
        if (!isIn(use, 0, USES - 1)) {
            return fail(BEYOND);
        }
        int fault = parser.faultOf(now.tape, use == 0 ? "insat" : "ilwc");
        now.tape.use(0);
        if (fault >= 0) {
            return -10 - fault;
        }
        lawOf(use).take(parser.law);
        return 1;
    }

    public int untell(int use) {
        if (!isIn(use, 0, USES - 1)) {
            return fail(BEYOND);
        }
        int was = lawOf(use).isTold() ? 1 : 0;
        lawOf(use).clear();
        return was;
    }

    // ---- posts.

    public int post(int post, int what) {
        if (!isIn(post, 0, now.miles.used()) || !isIn(what, 0, 5)) {
            return fail(BEYOND);
        }
        walk.go(now, NO_SLIP);
        switch (what) {
            case 0:
                return walk.sideOf(post);
            case 1:
                return walk.alongOf(post);
            case 2:
                return walk.sideOf(post) - movedBy(post, walk.missSide());
            case 3:
                return walk.alongOf(post) - movedBy(post, walk.missAlong());
            case 4:
                return movingOf(post);
            default:
                return now.trees.howMany(TREE_POST, post);
        }
    }

    public int miss(int what) {
        if (!isIn(what, 0, 2)) {
            return fail(BEYOND);
        }
        walk.go(now, NO_SLIP);
        switch (what) {
            case 0:
                return walk.missSide();
            case 1:
                return walk.missAlong();
            default:
                return walk.wholeMiss();
        }
    }

    public int wronged(int y) {
        if (!isIn(y, 1, 9999)) {
            return fail(BEYOND);
        }
        walk.go(now, NO_SLIP);
        int bits = 0;
        boolean isPostMoved = isMovedBy(0, y);
        for (int farm = 0; farm < now.miles.used(); farm++) {
            boolean isNextMoved = isMovedBy(farm + 1, y);
            if (isPostMoved || isNextMoved) {
                bits |= 1 << farm;
            }
            isPostMoved = isNextMoved;
        }
        return bits;
    }

    public int which(int what) {
        if (!isIn(what, 0, 1)) {
            return fail(BEYOND);
        }
        int best = NO_SLIP;
        int left = 0;
        for (int slip = 0; slip < now.slips.used(); slip++) {
            if (now.slips.at(SLIP_ON, slip) == 1) {
                walk.go(now, slip);
                int miss = walk.wholeMiss();
                if (best == NO_SLIP || miss < left) {
                    best = slip;
                    left = miss;
                }
            }
        }
        if (best == NO_SLIP) {
            return fail(NONE);
        }
        return what == 0 ? best : left;
    }

    public int checks(int k, int what) {
        if (!isIn(k, 1, 2) || !isIn(what, 0, 1)) {
            return fail(BEYOND);
        }
        if (now.miles.used() < k) {
            return fail(NONE);
        }
        walk.go(now, NO_SLIP);
        int set = k == 1 ? walk.bestCheck() : walk.bestPairOfChecks();
        return what == 0 ? set : walk.offWithChecks(set);
    }

    public int hours() {
        int sum = 0;
        for (int mile = 0; mile < now.miles.used(); mile++) {
            sum += hoursOf(mile);
        }
        return sum;
    }

    public int within(int h) {
        if (!isIn(h, 0, 99999)) {
            return fail(BEYOND);
        }
        int sum = 0;
        for (int mile = 0; mile < now.miles.used(); mile++) {
            sum += hoursOf(mile);
            if (sum > h) {
                return mile;
            }
        }
        return now.miles.used();
    }

    public int leaning() {
        walk.go(now, NO_SLIP);
        int best = 0;
        for (int mile = 1; mile < now.miles.used(); mile++) {
            if (Math.abs(walk.headingIn(mile)) > Math.abs(walk.headingIn(best))) {
                best = mile;
            }
        }
        return best;
    }

    public long straight(int part) {
        if (!isIn(part, 0, 1)) {
            return fail(BEYOND);
        }
        walk.go(now, NO_SLIP);
        long above = walk.sumOfSides();
        long below = walk.sumOfSquares();
        long common = greatestCommon(Math.abs(above), below);
        long wanted = part == 0 ? above : below;
        return common > 0 ? wanted / common : wanted;
    }

    public int offIt() {
        walk.go(now, NO_SLIP);
        int best = 1;
        for (int post = 2; post <= now.miles.used(); post++) {
            if (walk.offStraight(post) > walk.offStraight(best)) {
                best = post;
            }
        }
        return best;
    }

    public int nearest(int side, int along) {
        if (!isIn(side, -99999, 99999) || !isIn(along, 0, 99999)) {
            return fail(BEYOND);
        }
        walk.go(now, NO_SLIP);
        int best = 0;
        for (int post = 1; post <= now.miles.used(); post++) {
            if (walk.distanceOf(post, side, along) < walk.distanceOf(best, side, along)) {
                best = post;
            }
        }
        return best;
    }

    public int crosses() {
        walk.go(now, NO_SLIP);
        int crossed = 0;
        for (int mile = 0; mile < now.miles.used(); mile++) {
            int side = walk.sideOf(mile);
            int next = walk.sideOf(mile + 1);
            if (side < 0 && next > 0 || side > 0 && next < 0) {
                crossed++;
            }
        }
        return crossed;
    }

    // ---- trees, readers.

    public int tree(int post, int sort, int so) {
        int side = so / 1000 - 100;
        int along = so % 1000 - 100;
        if (!isIn(post, 1, MOST_MILES) || !isIn(sort, 0, SORTS - 1)
                || !isIn(side, -99, 99) || !isIn(along, -99, 99)) {
            return fail(BEYOND);
        }
        if (now.trees.isFull()) {
            return fail(FULL);
        }
        int tree = now.trees.add(post);
        now.trees.set(TREE_SORT, tree, sort);
        now.trees.set(TREE_SIDE, tree, side);
        now.trees.set(TREE_ALONG, tree, along);
        return tree;
    }

    public int treeIs(int tree, int what) {
        if (!now.trees.has(tree) || !isIn(what, 0, 5)) {
            return fail(BEYOND);
        }
        if (what <= TREE_ALONG) {
            return now.trees.at(what, tree);
        }
        int post = now.trees.at(TREE_POST, tree);
        if (post > now.miles.used()) {
            return fail(NONE);
        }
        walk.go(now, NO_SLIP);
        return what == 4
            ? walk.sideOf(post) + now.trees.at(TREE_SIDE, tree)
            : walk.alongOf(post) + now.trees.at(TREE_ALONG, tree);
    }

    public int dig(int tree, int side, int along, int what) {
        if (!now.trees.has(tree) || !isIn(what, 0, 1)) {
            return fail(BEYOND);
        }
        return what == 0
            ? side - now.trees.at(TREE_SIDE, tree)
            : along - now.trees.at(TREE_ALONG, tree);
    }

    public int sorts(int sort) {
        if (!isIn(sort, 0, SORTS - 1)) {
            return fail(BEYOND);
        }
        return now.trees.howMany(TREE_SORT, sort);
    }

    public int waver(int from, int n, int d) {
        if (!isIn(from, 0, MOST_MILES - 1) || !isIn(n, 1, MOST_MILES) || !isIn(d, 0, 99)) {
            return fail(BEYOND);
        }
        for (int mile = from; mile < from + n && mile < MOST_MILES; mile++) {
            now.miles.set(WAVER, mile, now.draw() % (2 * d + 1) - d);
        }
        walk.go(now, NO_SLIP);
        return walk.missSide();
    }

    public int still() {
        int wavered = 0;
        for (int mile = 0; mile < MOST_MILES; mile++) {
            if (now.miles.at(WAVER, mile) != 0) {
                wavered++;
            }
            now.miles.set(WAVER, mile, 0);
        }
        return wavered;
    }

    public int seed(int v) {
        int was = now.z;
        now.z = v;
        return was;
    }

    // ---- voices, sheets, images, what is told.

    public int voice(int slip, int voice, int x) {
        if (!now.slips.has(slip) || !isIn(voice, 0, VOICES - 1)) {
            return fail(BEYOND);
        }
        int answer = speaker.speak(now.slips, slip, voice, x);
        return speaker.isParted() ? fail(PARTED) : answer;
    }

    public int body(int i) {
        return speaker.trace.has(i) ? speaker.trace.at(0, i) : fail(NONE);
    }

    public int sheet(int sheet, int bits, int n) {
        Sheet its = sheetOf(sheet);
        if (its == null || bits != 0 && bits != 8 && bits != 16 && bits != 32) {
            return fail(BEYOND);
        }
        if (bits != 0 && n < 0) {
            return fail(STATE);
        }
        if (bits != 0 && n > MOST_NUMBERS) {
            return fail(BEYOND);
        }
        its.lay(bits, bits == 0 ? 0 : n);
        return 1;
    }

    public int put(int sheet, int i, int v) {
        Sheet its = sheetOf(sheet);
        if (its == null) {
            return fail(BEYOND);
        }
        if (its.isMissing()) {
            return fail(NONE);
        }
        if (!its.stand(i, 1)) {
            return fail(BEYOND);
        }
        its.write(i, v);
        return 1;
    }

    public int move(int sheet, int i, int other, int j, int n) {
        Sheet from = sheetOf(sheet);
        Sheet to = sheetOf(other);
        if (from == null || to == null) {
            return fail(BEYOND);
        }
        if (from.isMissing() || to.isMissing()) {
            return fail(NONE);
        }
        if (from.bits != to.bits) {
            return fail(UNLIKE);
        }
        if (!from.stand(i, n) || !to.stand(j, n)) {
            return fail(BEYOND);
        }
        System.arraycopy(from.numbers, i, to.numbers, j, n);
        return n;
    }

    public int judge(int sheet, int e) {
        Sheet its = sheetOf(sheet);
        if (its == null || !isIn(e, 0, 9999)) {
            return fail(BEYOND);
        }
        if (its.isMissing()) {
            return fail(NONE);
        }
        walk.go(now, NO_SLIP);
        for (int i = 0; i < its.size; i++) {
            int post = i + 1;
            if (post > now.miles.used() || Math.abs((long) its.number(i) - walk.sideOf(post)) > e) {
                return post;
            }
        }
        return 0;
    }

    public int even(int sheet, int what) {
        Sheet its = sheetOf(sheet);
        if (its == null || !isIn(what, 0, 1)) {
            return fail(BEYOND);
        }
        if (its.isMissing()) {
            return fail(NONE);
        }
        if (what == 0) {
            return its.evenSteps();
        }
        return its.longestEvenRow() >= 3 ? 1 : 0;
    }

    public int image() {
        kept.take(now);
        images++;
        return images;
    }

    public int restore() {
        if (images == 0) {
            return fail(NONE);
        }
        now.take(kept);
        return now.miles.used();
    }

    public int tell(int v) {
        if (now.waiting.isFull()) {
            return fail(FULL);
        }
        now.waiting.add(v);
        return now.waiting.used();
    }

    public int check() {
        walk.go(now, NO_SLIP);
        int told = now.waiting.used();
        int due = now.miles.used();
        now.waiting.use(0);
        for (int i = 0; i < told && i < due; i++) {
            if (now.waiting.at(0, i) != walk.sideOf(i + 1)) {
                return 1 + i;
            }
        }
        return told == due ? 0 : 1 + Math.min(told, due);
    }

    public int count(int what) {
        switch (what) {
            case 0:
                return now.miles.used();
            case 1:
                return now.slips.used();
            case 2:
                return now.trees.used();
            case 3:
                return now.miles.howMany(CHECK, 1);
            case 4:
                return now.tape.used();
            case 5:
                return now.waiting.used();
            case 6:
                return speaker.trace.used();
            case 7:
                return now.z;
            default:
                return fail(BEYOND);
        }
    }

    public int told(int k) {
        return isIn(k, 1, ERRORS) ? errors[k] : fail(BEYOND);
    }

    // What several promises ask for.

    private int fail(int error) {
        if (isIn(error, 1, ERRORS)) {
            errors[error]++;
        }
        return LOW - error;
    }

    private Law lawOf(int use) {
        return use == 0 ? now.moving : now.hours;
    }

    private Sheet sheetOf(int sheet) {
        return isIn(sheet, 0, SHEETS - 1) ? sheets[sheet] : null;
    }

    /** MOVING of a POST of THE LINE, which has been gone. */
    private int movingOf(int post) {
        int n = now.miles.used();
        if (!now.moving.isTold()) {
            return n > 0 ? 100 * post / n : 0;
        }
        names[0] = post;
        names[1] = n;
        names[2] = walk.missSide();
        names[3] = walk.missAlong();
        names[4] = now.trees.howMany(TREE_POST, post);
        return held(now.moving.workedOut(names, stack), 100);
    }

    private int movedBy(int post, int miss) {
        return miss * movingOf(post) / 100;
    }

    private boolean isMovedBy(int post, int y) {
        return Math.abs(movedBy(post, walk.missSide())) >= y;
    }

    private int hoursOf(int mile) {
        int slope = now.miles.at(SLOPE, mile);
        int swamp = now.miles.at(SWAMP, mile);
        int check = now.miles.at(CHECK, mile);
        if (!now.hours.isTold()) {
            return 8 + slope + swamp / 9 + 3 * check;
        }
        names[0] = mile;
        names[1] = slope;
        names[2] = swamp;
        names[3] = check;
        return held(now.hours.workedOut(names, stack), 999);
    }

    private static int held(int v, int most) {
        return Math.max(0, Math.min(v, most));
    }

    private static boolean isIn(int v, int least, int most) {
        return v >= least && v <= most;
    }

    /** Euclid's; 100 steps are more than any two longs need. */
    private static long greatestCommon(long a, long b) {
        long greater = a;
        long rest = b;
        for (int step = 0; step < 100 && rest != 0; step++) {
            long next = greater % rest;
            greater = rest;
            rest = next;
        }
        return greater;
    }

    /** Numbers in columns and rows; the first rows are in use. A cell that is not there is 0. */
    private static class Table {
        private final int columns;
        private final int rows;
        private final int[] cells;
        private int used = 0;

        Table(int columns, int rows) {
            this.columns = held(columns, 5);
            this.rows = held(rows, MOST_BYTES);
            this.cells = new int[this.columns * this.rows];
        }

        final int used() {
            return used;
        }

        final void use(int n) {
            used = held(n, rows);
        }

        final boolean has(int row) {
            return isIn(row, 0, used - 1);
        }

        final boolean isFull() {
            return used >= rows;
        }

        /** One more row, with its first number: which it is. The caller has asked isFull. */
        final int add(int first) {
            int row = used;
            use(used + 1);
            set(0, row, first);
            return row;
        }

        final int at(int column, int row) {
            return holds(column, row) ? cells[column * rows + row] : 0;
        }

        final void set(int column, int row, int v) {
            if (holds(column, row)) {
                cells[column * rows + row] = v;
            }
        }

        final int howMany(int column, int v) {
            int many = 0;
            for (int row = 0; row < used; row++) {
                if (at(column, row) == v) {
                    many++;
                }
            }
            return many;
        }

        final void take(Table other) {
            int common = Math.min(cells.length, other.cells.length);
            System.arraycopy(other.cells, 0, cells, 0, common);
            use(other.used);
        }

        private boolean holds(int column, int row) {
            return column >= 0 && column < columns && row >= 0 && row < rows;
        }
    }

    /** SLIPS, and what their KINDS do at a MILE. */
    private static final class Slips extends Table {
        Slips() {
            super(5, MOST_SLIPS);
        }

        boolean isOf(int slip, int kind) {
            int its = at(SLIP_KIND, slip);
            for (int step = 0; step < KINDS && its != kind; step++) {
                its = above(its);
            }
            return its == kind;
        }

        int leansAt(int slip, int mile) {
            boolean leans = false;
            switch (at(SLIP_KIND, slip)) {
                case NEEDLE:
                    leans = isFirst(slip, mile);
                    break;
                case HANDED:
                    leans = spans(slip, mile);
                    break;
                default:
                    break;
            }
            return leans ? at(SLIP_M, slip) : 0;
        }

        int pushesAt(int slip, int mile, int swamp) {
            if (swamp <= 0 || !spans(slip, mile)) {
                return 0;
            }
            switch (at(SLIP_KIND, slip)) {
                case OFFSET:
                    return at(SLIP_M, slip);
                case MADE:
                    return at(SLIP_M, slip) / 2;
                default:
                    return 0;
            }
        }

        int shortensAt(int slip, int mile, int slope) {
            if (!spans(slip, mile)) {
                return 0;
            }
            int m = at(SLIP_M, slip);
            switch (at(SLIP_KIND, slip)) {
                case CHAIN:
                    return m * (slope + 1);
                case COUNTED:
                    return m * (slope + 1) + (isFirst(slip, mile) ? 66 : 0);
                case MADE:
                    return 2 * m;
                default:
                    return 0;
            }
        }

        private boolean isFirst(int slip, int mile) {
            return mile == at(SLIP_FROM, slip);
        }

        private boolean spans(int slip, int mile) {
            return isIn(mile, at(SLIP_FROM, slip), at(SLIP_TO, slip));
        }

        static int above(int kind) {
            return isIn(kind, 0, KINDS - 1) ? KIND_ABOVE[kind] : NO_KIND;
        }
    }

    /** All that an IMAGE keeps. */
    private static final class State {
        private final Table miles = new Table(5, MOST_MILES);
        private final Slips slips = new Slips();
        private final Table trees = new Table(4, MOST_TREES);
        private final Table tape = new Table(1, MOST_BYTES);
        private final Table waiting = new Table(1, MOST_WAITING);
        private final Law moving = new Law();
        private final Law hours = new Law();
        private int stoneSide = 0;
        private int stoneAlong = 12 * YARDS;
        private int z = 1;

        State() {
            miles.use(12);
        }

        int draw() {
            z = z * 1103515245 + 12345;
            return z >>> 8;
        }

        void take(State other) {
            miles.take(other.miles);
            slips.take(other.slips);
            trees.take(other.trees);
            tape.take(other.tape);
            waiting.take(other.waiting);
            moving.take(other.moving);
            hours.take(other.hours);
            stoneSide = other.stoneSide;
            stoneAlong = other.stoneAlong;
            z = other.z;
        }
    }

    /** THE LINE as it is gone: where its POSTS come to stand, and what brings them there. */
    private static final class Walk {
        private final int[] side = new int[MOST_MILES + 1];
        private final int[] along = new int[MOST_MILES + 1];
        private final int[] heading = new int[MOST_MILES];
        private final int[] leans = new int[MOST_MILES];
        private final int[] pushes = new int[MOST_MILES];
        private final int[] shortens = new int[MOST_MILES];
        private final int[] drift = new int[MOST_MILES];
        private int n = 0;
        private int stoneSide = 0;
        private int stoneAlong = 0;

        /** Goes THE LINE anew, with one SLIP as if it were off (or with NO_SLIP so). */
        void go(State state, int without) {
            n = held(state.miles.used(), MOST_MILES);
            stoneSide = state.stoneSide;
            stoneAlong = state.stoneAlong;
            int turned = 0;
            for (int mile = 0; mile < n; mile++) {
                addUpSlips(state, mile, without);
                drift[mile] = state.miles.at(IRON, mile) + pushes[mile] + state.miles.at(WAVER, mile);
                if (state.miles.at(CHECK, mile) == 1) {
                    turned = 0;
                }
                turned += leans[mile];
                heading[mile] = turned;
                side[mile + 1] = side[mile] + turned + drift[mile];
                along[mile + 1] = along[mile] + YARDS - 3 * state.miles.at(SLOPE, mile) - shortens[mile];
            }
        }

        private void addUpSlips(State state, int mile, int without) {
            int swamp = state.miles.at(SWAMP, mile);
            int slope = state.miles.at(SLOPE, mile);
            leans[mile] = 0;
            pushes[mile] = 0;
            shortens[mile] = 0;
            for (int slip = 0; slip < state.slips.used(); slip++) {
                if (slip != without && state.slips.at(SLIP_ON, slip) == 1) {
                    leans[mile] += state.slips.leansAt(slip, mile);
                    pushes[mile] += state.slips.pushesAt(slip, mile, swamp);
                    shortens[mile] += state.slips.shortensAt(slip, mile, slope);
                }
            }
        }

        int sideOf(int post) {
            return isIn(post, 0, n) ? side[post] : 0;
        }

        int alongOf(int post) {
            return isIn(post, 0, n) ? along[post] : 0;
        }

        int headingIn(int mile) {
            return isIn(mile, 0, n - 1) ? heading[mile] : 0;
        }

        int pushesIn(int mile) {
            return isIn(mile, 0, n - 1) ? pushes[mile] : 0;
        }

        int shortensIn(int mile) {
            return isIn(mile, 0, n - 1) ? shortens[mile] : 0;
        }

        int missSide() {
            return side[n] - stoneSide;
        }

        int missAlong() {
            return along[n] - stoneAlong;
        }

        int wholeMiss() {
            return Math.abs(missSide()) + Math.abs(missAlong());
        }

        int distanceOf(int post, int otherSide, int otherAlong) {
            return Math.abs(sideOf(post) - otherSide) + Math.abs(alongOf(post) - otherAlong);
        }

        /** How far from THE STONE the SIDE of the last POST is, with a set of MILES as the only CHECKS. */
        int offWithChecks(int set) {
            int turned = 0;
            int at = 0;
            for (int mile = 0; mile < n; mile++) {
                if ((set >>> mile & 1) == 1) {
                    turned = 0;
                }
                turned += leans[mile];
                at += turned + drift[mile];
            }
            return Math.abs(at - stoneSide);
        }

        /** Goes through the sets from the least on, as bits, so that the first of several stays. */
        int bestCheck() {
            int best = 1;
            int least = offWithChecks(best);
            for (int mile = 1; mile < n; mile++) {
                int off = offWithChecks(1 << mile);
                if (off < least) {
                    best = 1 << mile;
                    least = off;
                }
            }
            return best;
        }

        /** As bestCheck: the later MILE of a pair weighs more in its bits. */
        int bestPairOfChecks() {
            int best = 3;
            int least = offWithChecks(best);
            for (int later = 2; later < n; later++) {
                for (int earlier = 0; earlier < later; earlier++) {
                    int set = 1 << later | 1 << earlier;
                    int off = offWithChecks(set);
                    if (off < least) {
                        best = set;
                        least = off;
                    }
                }
            }
            return best;
        }

        /** What stands above the line in STRAIGHT, not yet in lowest terms. */
        long sumOfSides() {
            long sum = 0;
            for (int post = 1; post <= n; post++) {
                sum += (long) post * side[post];
            }
            return sum;
        }

        long sumOfSquares() {
            long sum = 0;
            for (int post = 1; post <= n; post++) {
                sum += (long) post * post;
            }
            return sum;
        }

        /** How far a POST is from STRAIGHT, times sumOfSquares, so that it is a whole number. */
        long offStraight(int post) {
            return Math.abs(sideOf(post) * sumOfSquares() - sumOfSides() * post);
        }
    }

    /**
     * A TEXT, as its parts in the order in which they are worked out: numbers as they are, names
     * from NAME on, signs from SIGN on.
     */
    private static final class Law {
        private static final int NAME = 10000;
        private static final int SIGN = 20000;

        private final int[] parts = new int[MOST_BYTES];
        private int size = 0;

        boolean isTold() {
            return size > 0;
        }

        void clear() {
            size = 0;
        }

        void add(int part) {
            if (size < parts.length) {
                parts[size] = part;
                size++;
            }
        }

        void take(Law other) {
            System.arraycopy(other.parts, 0, parts, 0, parts.length);
            size = other.size;
        }

        int workedOut(int[] names, int[] stack) {
            int top = 0;
            for (int i = 0; i < size; i++) {
                int part = parts[i];
                if (part < SIGN && top < stack.length) {
                    stack[top] = part < NAME ? part : named(names, part - NAME);
                    top++;
                } else if (part == SIGN + '!' && top >= 1) {
                    stack[top - 1] = truth(stack[top - 1] == 0);
                } else if (top >= 2) {
                    top--;
                    stack[top - 1] = joined(part - SIGN, stack[top - 1], stack[top]);
                }
            }
            return top > 0 ? stack[0] : 0;
        }

        private static int named(int[] names, int name) {
            return isIn(name, 0, names.length - 1) ? names[name] : 0;
        }

        private static int joined(int sign, int left, int right) {
            switch (sign) {
                case '|':
                    return truth(left != 0 || right != 0);
                case '&':
                    return truth(left != 0 && right != 0);
                case '<':
                    return truth(left < right);
                case '=':
                    return truth(left == right);
                case '>':
                    return truth(left > right);
                case '+':
                    return left + right;
                case '-':
                    return left - right;
                case '*':
                    return left * right;
                case '/':
                    return right == 0 ? 0 : left / right;
                default:
                    return right == 0 ? 0 : left % right;
            }
        }

        private static int truth(boolean is) {
            return is ? 1 : 0;
        }
    }

    /**
     * Reads a TEXT from THE TAPE, a method for each rule of its grammar. Each rule ends at the first
     * byte that it can't take; isStuck says that no rule above can take it either. The rules call
     * one another, but only MOST_OPEN deep.
     */
    private static final class Parser {
        private static final int MOST_OPEN = 5;
        private static final int MOST_DIGITS = 4;

        private final Law law = new Law();
        private final Table tape = new Table(1, MOST_BYTES);
        private String names = "";
        private int at = 0;
        private int open = 0;
        private boolean isStuck = false;

        /** The FAULT of THE TAPE as a TEXT with these NAMES; -1 if it is one (law has it then). */
        int faultOf(Table bytes, String its) {
            tape.take(bytes);
            names = its;
            law.clear();
            at = 0;
            open = 0;
            isStuck = false;
            readT();
            return isStuck || at < tape.used() ? at : -1;
        }

        private void readT() {
            readA();
            for (int turn = 0; turn < MOST_BYTES && isNext('|'); turn++) {
                at++;
                readA();
                law.add(Law.SIGN + '|');
            }
        }

        private void readA() {
            readB();
            for (int turn = 0; turn < MOST_BYTES && isNext('&'); turn++) {
                at++;
                readB();
                law.add(Law.SIGN + '&');
            }
        }

        private void readB() {
            readS();
            if (isNext('<') || isNext('=') || isNext('>')) {
                int sign = next();
                at++;
                readS();
                law.add(Law.SIGN + sign);
            }
        }

        private void readS() {
            readP();
            for (int turn = 0; turn < MOST_BYTES && (isNext('+') || isNext('-')); turn++) {
                int sign = next();
                at++;
                readP();
                law.add(Law.SIGN + sign);
            }
        }

        private void readP() {
            readQ();
            for (int turn = 0; turn < MOST_BYTES && (isNext('*') || isNext('/') || isNext('%')); turn++) {
                int sign = next();
                at++;
                readQ();
                law.add(Law.SIGN + sign);
            }
        }

        private void readQ() {
            int sign = next();
            if (isDigit(sign)) {
                readNumber();
            } else if (nameOf(sign) >= 0) {
                law.add(Law.NAME + nameOf(sign));
                at++;
            } else if (sign == '!' && open < MOST_OPEN) {
                open++;
                at++;
                readQ();
                open--;
                law.add(Law.SIGN + '!');
            } else if (sign == '(' && open < MOST_OPEN) {
                open++;
                at++;
                readT();
                open--;
                isStuck = !isNext(')');
                at += isStuck ? 0 : 1;
            } else {
                isStuck = true;
            }
        }

        /** A digit too many is left for the rules above, none of which can take it. */
        private void readNumber() {
            int number = 0;
            for (int digits = 0; digits < MOST_DIGITS && isDigit(next()); digits++) {
                number = 10 * number + next() - '0';
                at++;
            }
            law.add(number);
        }

        private int nameOf(int sign) {
            return isIn(sign, 0, 255) ? names.indexOf((char) sign) : -1;
        }

        private int next() {
            return at < tape.used() ? tape.at(0, at) : -1;
        }

        private boolean isNext(int sign) {
            return !isStuck && next() == sign;
        }

        private static boolean isDigit(int sign) {
            return isIn(sign, '0', '9');
        }
    }

    /** Works out VOICES of a SLIP and keeps THE TRACE. */
    private static final class Speaker {
        private static final int MOST_DEEP = 40;

        private final Table trace = new Table(1, MOST_BODIES);
        private int kind = 0;
        private int k = 0;
        private int m = 0;
        private boolean isParted = false;

        /** THE TRACE is of the latest VOICE, of one that is PARTED, too: it has what began by then. */
        int speak(Slips slips, int slip, int voice, int x) {
            kind = slips.at(SLIP_KIND, slip);
            k = slip;
            m = slips.at(SLIP_M, slip);
            isParted = false;
            trace.use(0);
            return sound(voice, kind, x, 0);
        }

        boolean isParted() {
            return isParted;
        }

        /**
         * The BODY of a VOICE that a KIND has, or the next KIND above that has one. Once a BODY is
         * PARTED none begins any more, for PARTED is all that is answered then.
         */
        private int sound(int voice, int from, int x, int deep) {
            int its = from;
            for (int step = 0; step < KINDS && bodyOf(its, voice) == 0; step++) {
                its = Slips.above(its);
            }
            if (isParted || deep >= MOST_DEEP) {
                return 0;
            }
            if (!trace.isFull()) {
                trace.add(bodyOf(its, voice));
            }
            return workedOut(bodyOf(its, voice), Slips.above(its), x, deep + 1);
        }

        /** A BODY with x; above is the KIND above the BODY's own, where super begins. */
        private int workedOut(int body, int above, int x, int deep) {
            switch (body) {
                case 10:
                    return x + k;
                case 11:
                    return sound(SIGHTS, kind, x, deep) * 2;
                case 12:
                    return sound(CHAINS, kind, x, deep) - m;
                case 13:
                    return mended(x);
                case 20:
                    return sound(SIGHTS, above, x, deep) - 4;
                case 21:
                    return sound(MENDS, above, x, deep) + sound(CHAINS, kind, 1, deep);
                case 30:
                    return 0 - sound(CHAINS, above, x, deep);
                case 40:
                    return sound(NOTES, above, x / 2, deep);
                case 41:
                    return sound(CHAINS, above, x, deep) + k;
                case 50:
                    return sound(SIGHTS, above, x, deep) * 3;
                case 51:
                    return sound(MENDS, above, x, deep) - sound(NOTES, kind, 0, deep);
                case 60:
                    return sound(NOTES, above, x, deep) ^ m;
                case 70:
                    return sound(NOTES, above, x + 1, deep);
                default:
                    return 6;
            }
        }

        private int mended(int x) {
            int by = m - k;
            if (by == 0) {
                isParted = true;
                return 0;
            }
            return x / by;
        }

        private static int bodyOf(int kind, int voice) {
            boolean isThere = isIn(kind, 0, KINDS - 1) && isIn(voice, 0, VOICES - 1);
            return isThere ? BODIES[kind * VOICES + voice] : 0;
        }
    }

    /** A row of numbers of so many bits; of 0 bits, while it is missing. */
    private static final class Sheet {
        private final int[] numbers = new int[MOST_NUMBERS];
        private int bits = 0;
        private int size = 0;

        boolean isMissing() {
            return bits == 0;
        }

        void lay(int itsBits, int n) {
            bits = itsBits;
            size = held(n, MOST_NUMBERS);
            for (int i = 0; i < MOST_NUMBERS; i++) {
                numbers[i] = 0;
            }
        }

        /** Whether n numbers stand from number i on; none may stand right behind the last. */
        boolean stand(int i, int n) {
            return i >= 0 && n >= 0 && i <= size && n <= size - i;
        }

        int number(int i) {
            return isIn(i, 0, size - 1) ? numbers[i] : 0;
        }

        void write(int i, int v) {
            if (isIn(i, 0, size - 1)) {
                numbers[i] = lowest(v);
            }
        }

        private int lowest(int v) {
            switch (bits) {
                case 8:
                    return (byte) v;
                case 16:
                    return (short) v;
                default:
                    return v;
            }
        }

        private int step(int i) {
            return number(i) - number(i - 1);
        }

        private boolean isEven(int i) {
            return i >= 1 && step(i) == step(i - 1);
        }

        int evenSteps() {
            int many = 0;
            for (int i = 1; i < size; i++) {
                many += isEven(i) ? 1 : 0;
            }
            return many;
        }

        int longestEvenRow() {
            int longest = 0;
            int row = 0;
            for (int i = 1; i < size; i++) {
                row = isEven(i) ? row + 1 : 0;
                longest = Math.max(longest, row);
            }
            return longest;
        }
    }
}
