/** Objects that have something of all, made by the same calls each time, and all that can be read of them. */
final class Rich {
    /** An object is used for 512 calls; what later calls answer is free. */
    private static final int MOST_CALLS = 512;

    private Rich() {
    }

    /**
     * Five MILES, seven SLIPS, six TREES, both TEXTS, five bytes on THE TAPE, five numbers that wait, a
     * TRACE, three SHEETS that hold the SIDES of POSTS, SHEET 3 missing, and an IMAGE of other things.
     */
    static NeedleLine open() {
        NeedleLine x = new NeedleLine();
        layTheImage(x);
        x.miles(5);
        layMiles(x);
        x.stone(-31, 9001);
        x.slip(1, 3, 7);
        x.slip(2, 104, 3);
        x.slip(3, 203, -2);
        x.slip(5, 4, 9);
        x.slip(4, 323, 5);
        x.slip(6, 2, 11);
        x.turn(1, 0);
        x.tree(1, 0, 101099);
        x.tree(5, 5, 1199);
        x.tree(5, 3, 199001);
        x.tree(6, 3, 150150);
        x.tree(24, 1, 99101);
        x.seed(4242);
        x.waver(1, 3, 9);
        x.waver(20, 2, 40);
        Texts.told(x, 0, "i*7+s%31-a%13+t*5+20");
        Texts.told(x, 1, "i+l*3+w/2+c*50");
        Texts.feed(x, "i*7+w");
        tellSides(x);
        layNotebooks(x);
        x.voice(4, 1, 6);
        return x;
    }

    /** As open, with eight SLIPS. */
    static NeedleLine fullOfSlips() {
        NeedleLine x = open();
        x.slip(1, 2323, 99);
        return x;
    }

    /** As open, with sixteen TREES. */
    static NeedleLine fullOfTrees() {
        NeedleLine x = open();
        for (int i = 6; i < 16; i++) {
            x.tree(i, i % 6, 100100 + i);
        }
        return x;
    }

    /** As open, with a TAPE of so many bytes (5 at least) that are the beginning of a TEXT, or one. */
    static NeedleLine withTape(int bytes) {
        NeedleLine x = open();
        StringBuilder more = new StringBuilder();
        while (more.length() < bytes - 5) {
            more.append(more.length() % 2 == 0 ? '+' : '1');
        }
        Texts.feed(x, more.toString());
        return x;
    }

    /** As open, with 24 MILES and 24 numbers that wait, all the SIDES of POSTS. */
    static NeedleLine fullOfNumbers() {
        NeedleLine x = open();
        x.miles(24);
        x.check();
        tellSides(x);
        return x;
    }

    private static void layTheImage(NeedleLine x) {
        x.miles(3);
        x.mile(1, 0, -8);
        x.mile(2, 1, 2);
        x.slip(4, 1, 5);
        x.tree(2, 4, 150050);
        x.stone(7, 5000);
        Texts.told(x, 0, "i*9");
        Texts.told(x, 1, "w+4");
        x.feed('l', 1);
        x.tell(-8);
        x.waver(0, 2, 3);
        x.image();
        x.text(1);
        x.check();
    }

    private static void layMiles(NeedleLine x) {
        int[] miles = {0, 1, 2, 4, 23};
        for (int i = 0; i < miles.length; i++) {
            x.mile(miles[i], 0, 8 * i - 17);
            x.mile(miles[i], 1, i + 1);
            x.mile(miles[i], 2, 20 * i);
            x.mile(miles[i], 3, i / 2 % 2);
        }
    }

    private static void tellSides(NeedleLine x) {
        int n = x.count(0);
        for (int post = 1; post <= n; post++) {
            x.tell(x.post(post, 0));
        }
    }

    private static void layNotebooks(NeedleLine x) {
        x.sheet(0, 8, 5);
        x.sheet(1, 32, 5);
        x.sheet(2, 32, 4);
        for (int i = 0; i < 5; i++) {
            int side = x.post(i + 1, 0);
            x.put(0, i, side);
            x.put(1, i, side);
            if (i < 4) {
                x.put(2, i, side);
            }
        }
    }

    /**
     * All that can be read, in the end by calls that take it away: of two objects that are alike the
     * same row of answers. It leaves out what told() tells.
     */
    static long[] reading(NeedleLine x) {
        Row row = new Row();
        readCountsAndLaws(row, x);
        int bodies = x.count(6);
        for (int i = 0; i < bodies; i++) {
            row.add(x.body(i));
        }
        readSlipsAndTrees(row, x);
        readSheets(row, x);
        row.add(x.check());
        readMiles(row, x);
        row.add(x.text(1));
        for (int mile = 0; mile < 3; mile++) {
            row.add(x.mileIs(mile, 5));
        }
        row.add(x.restore());
        readCountsAndLaws(row, x);
        readSlipsAndTrees(row, x);
        row.add(x.check());
        row.add(x.text(1));
        row.add(x.hours());
        row.add(x.still());
        row.add(x.image());
        return row.all();
    }

    private static void readCountsAndLaws(Row row, NeedleLine x) {
        for (int what = 0; what < 8; what++) {
            row.add(x.count(what));
        }
        row.add(x.miss(0));
        row.add(x.miss(1));
        int n = x.count(0);
        for (int post = 0; post <= n; post++) {
            row.add(x.post(post, 4));
        }
        for (int mile = 0; mile < n; mile += 2) {
            row.add(x.mileIs(mile, 5));
        }
    }

    private static void readSlipsAndTrees(Row row, NeedleLine x) {
        int slips = x.count(1);
        for (int slip = 0; slip < slips; slip++) {
            for (int what = 0; what < 5; what++) {
                row.add(x.slipIs(slip, what));
            }
        }
        int trees = x.count(2);
        for (int tree = 0; tree < trees; tree++) {
            for (int what = 0; what < 4; what++) {
                row.add(x.treeIs(tree, what));
            }
        }
    }

    /** Which are of the same bits, how many numbers they have, and whether those are SIDES of POSTS. */
    private static void readSheets(Row row, NeedleLine x) {
        for (int sheet = 0; sheet < 4; sheet++) {
            for (int other = 0; other < sheet; other++) {
                row.add(x.move(sheet, 0, other, 0, 0));
            }
            row.add(x.judge(sheet, 0));
            row.add(x.even(sheet, 0));
            row.add(x.move(sheet, 4, sheet, 4, 0));
            row.add(x.move(sheet, 5, sheet, 5, 0));
            row.add(x.move(sheet, 6, sheet, 6, 0));
        }
    }

    private static void readMiles(Row row, NeedleLine x) {
        row.add(x.miles(24));
        for (int mile = 0; mile < 24; mile++) {
            for (int what = 0; what < 5; what++) {
                row.add(x.mileIs(mile, what));
            }
        }
    }

    /** A row of answers that grows. */
    private static final class Row {
        private final long[] answers = new long[MOST_CALLS];
        private int size = 0;

        void add(long answer) {
            answers[size] = answer;
            size++;
        }

        long[] all() {
            return java.util.Arrays.copyOf(answers, size);
        }
    }
}
