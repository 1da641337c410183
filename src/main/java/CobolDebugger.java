/** A debugger of a program of statements in paragraphs; the document's promises stand at the methods by number. */
public final class CobolDebugger {
    public static final int NONE = -1;

    private static final int DONE = 1;
    private static final int MISSING = -2;
    private static final int WRONG = -4;

    private static final int MOST_STATEMENTS = 100;
    private static final int MOST_LINE = 9999;
    private static final int PARAGRAPHS = 20;
    private static final int MOST_RUN = 200;
    /** A step's item of -2 performs paragraph 0, one of -3 paragraph 1, and so on. */
    private static final int PERFORMS = -2;

    /** By statement number; place 0 is free, as statements count from 1. */
    private final int[] paragraphOf;
    private final int[] lineOf;
    private final int[] does;
    private final long[] more;
    private int statements;

    /** By paragraph number; 0 where there is none such. */
    private final int[] firstOf;
    private final int[] lastOf;
    private final int[] runs;

    private final Items items;
    private final Stops stops;
    private final Performings performings;
    private final Kept kept;
    private int stand;
    private int faults;

    /** Promise 1. */
    public CobolDebugger() {
        paragraphOf = new int[MOST_STATEMENTS + 1];
        lineOf = new int[MOST_STATEMENTS + 1];
        does = new int[MOST_STATEMENTS + 1];
        more = new long[MOST_STATEMENTS + 1];
        firstOf = new int[PARAGRAPHS];
        lastOf = new int[PARAGRAPHS];
        runs = new int[PARAGRAPHS];
        items = new Items();
        stops = new Stops();
        performings = new Performings();
        kept = new Kept();
    }

    /** Promise 2. */
    public int statement(int paragraph, int line) {
        if (!isParagraph(paragraph) || line < 1 || line > MOST_LINE) {
            return WRONG;
        }
        if (statements >= MOST_STATEMENTS) {
            return NONE;
        }
        statements++;
        paragraphOf[statements] = paragraph;
        lineOf[statements] = line;
        does[statements] = NONE;
        extendParagraph(paragraph);
        // An empty program has not come to its end: it waits for its first statement.
        if (statements == 1) {
            stand = 1;
        }
        return statements;
    }

    /** Promise 3. */
    public int item(int usage, int size) {
        if (!Items.canBe(usage, size)) {
            return WRONG;
        }
        return items.make(usage, size);
    }

    /** Promise 4. */
    public int step(int statement, int item, long v) {
        if (statement < 1 || statement > statements || item >= items.made) {
            return MISSING;
        }
        if (item <= PERFORMS && !isParagraph(PERFORMS - item)) {
            return WRONG;
        }
        does[statement] = item;
        more[statement] = v;
        return DONE;
    }

    /** Promise 5. */
    public int stop(int kind, int of, int condition) {
        if (kind < Stops.AT_PARAGRAPH || kind > Stops.FOR_TASK) {
            return WRONG;
        }
        if ((kind == Stops.IF_CHANGED || kind == Stops.IF_REACHED) && !items.has(of)) {
            return MISSING;
        }
        return stops.make(kind, of, condition);
    }

    /** Promise 6. */
    public int run(int n) {
        if (n < 0 || n > MOST_RUN) {
            return WRONG;
        }
        for (int i = 0; i < n && stand != 0; i++) {
            int met = i == 0 ? 0 : metAhead();
            if (met == 0) {
                met = stops.leastBehind(runOne(), items);
            }
            if (met != 0) {
                return met;
            }
        }
        return 0;
    }

    /** Promise 7. */
    public long show(int item) throws IllegalArgumentException, IllegalStateException {
        if (!items.has(item)) {
            throw new IllegalArgumentException("no such item");
        }
        if (items.isBad(item)) {
            throw new IllegalStateException("a byte of the item is no digit");
        }
        return items.says(item);
    }

    /** Promise 8. */
    public int change(int item, long v) {
        if (!items.has(item)) {
            return MISSING;
        }
        if (items.isConstant(item)) {
            return 0;
        }
        items.write(item, v);
        return DONE;
    }

    /** Promise 9. */
    public int back(int n) {
        if (n < 0 || n > kept.rows) {
            return WRONG;
        }
        for (int i = 0; i < n; i++) {
            takeBackOne();
        }
        return stand;
    }

    /** Promise 10. */
    public int performed(int i) {
        return performings.performer(i);
    }

    /** Promise 11. */
    public int count(int paragraph) {
        return isParagraph(paragraph) ? runs[paragraph] : WRONG;
    }

    /** Promise 12. */
    public int caught(int code, int terminal) {
        return stops.leastForTask(code, terminal);
    }

    /** Promise 13: numbers have no gaps, so the nearest one is name itself or one of the two ends. */
    public int near(int name) {
        if (items.made == 0) {
            return NONE;
        }
        return Math.max(0, Math.min(name, items.made - 1));
    }

    /** Promise 14. */
    public byte octet(int item, int i) throws ArrayIndexOutOfBoundsException {
        if (!items.has(item) || !items.hasByte(item, i)) {
            throw new ArrayIndexOutOfBoundsException("no such item or byte");
        }
        return items.byteAt(item, i);
    }

    /** Promise 15: the refusals in the document's order, so a constant answers 0 for every i. */
    public int poke(int item, int i, byte b) {
        if (!items.has(item)) {
            return MISSING;
        }
        if (items.isConstant(item)) {
            return 0;
        }
        if (!items.hasByte(item, i)) {
            return WRONG;
        }
        items.setByte(item, i, b);
        return DONE;
    }

    /** Promise 16. */
    public int told(int what) {
        switch (what) {
            case 0:
                return statements;
            case 1:
                return items.made;
            case 2:
                return stops.made;
            case 3:
                return stand;
            case 4:
                return kept.rows;
            case 5:
                return faults;
            case 6:
                return performings.open;
            default:
                return NONE;
        }
    }

    private static boolean isParagraph(int paragraph) {
        return paragraph >= 0 && paragraph < PARAGRAPHS;
    }

    /** Only the first run of a number is the paragraph: a later run leaves its ends alone. */
    private void extendParagraph(int paragraph) {
        if (firstOf[paragraph] == 0) {
            firstOf[paragraph] = statements;
            lastOf[paragraph] = statements;
        } else if (lastOf[paragraph] == statements - 1) {
            lastOf[paragraph] = statements;
        }
    }

    private int metAhead() {
        int paragraph = paragraphOf[stand];
        int begun = firstOf[paragraph] == stand ? paragraph : NONE;
        return stops.leastAhead(begun, lineOf[stand]);
    }

    /** Runs the statement that comes next; answers the item whose bytes became others, or NONE. */
    private int runOne() {
        int number = stand;
        int what = does[number];
        kept.keep(number, what, items);
        runs[paragraphOf[number]]++;
        if (what <= PERFORMS) {
            goInto(number, PERFORMS - what);
            return NONE;
        }
        boolean changed = what >= 0 && addTo(what, more[number]);
        goBehind(number);
        return changed ? what : NONE;
    }

    /** Answers whether the item's bytes became others. */
    private boolean addTo(int item, long v) {
        if (items.isBad(item)) {
            faults++;
            return false;
        }
        return !items.isConstant(item) && items.add(item, v);
    }

    private void goInto(int number, int paragraph) {
        int first = firstOf[paragraph];
        if (first == 0 || !performings.enter(number, lastOf[paragraph])) {
            faults++;
            goBehind(number);
            return;
        }
        kept.noteEntered();
        stand = first;
    }

    /** One statement can be the end of several performings within one another. */
    private void goBehind(int number) {
        int from = number;
        int left = 0;
        while (left < Performings.MOST && performings.endsAt(from)) {
            from = performings.leave();
            left++;
        }
        kept.noteLeft(left);
        stand = from < statements ? from + 1 : 0;
    }

    private void takeBackOne() {
        kept.takeNewest();
        stand = kept.newestStatement();
        runs[paragraphOf[stand]]--;
        kept.restoreBytes(items);
        if (kept.newestEntered()) {
            performings.forgetNewest();
        }
        int left = kept.newestLeft();
        for (int i = 0; i < left; i++) {
            performings.reopen();
        }
    }

    /** The items, their bytes in one row of nine places each. */
    private static final class Items {
        private static final int MOST = 30;
        private static final int PLACES = 9;
        private static final int MOST_BINARY = 4;
        private static final int BINARY = 1;
        private static final int CONSTANT = 2;
        private static final int ZERO = 48;
        private static final int SIGN = 64;
        /** By a size, the least number that has more digits. */
        private static final long[] TENS = {
            1L, 10L, 100L, 1000L, 10000L, 100000L, 1000000L, 10000000L, 100000000L, 1000000000L
        };

        private final int[] usages;
        private final int[] sizes;
        private final byte[] bytes;
        private int made;

        private Items() {
            usages = new int[MOST];
            sizes = new int[MOST];
            bytes = new byte[MOST * PLACES];
        }

        private static boolean canBe(int usage, int size) {
            if (usage < 0 || usage > CONSTANT) {
                return false;
            }
            return size >= 1 && size <= (usage == BINARY ? MOST_BINARY : PLACES);
        }

        private int make(int usage, int size) {
            if (made >= MOST) {
                return NONE;
            }
            int item = made;
            made++;
            usages[item] = usage;
            sizes[item] = size;
            write(item, 0L);
            return item;
        }

        private boolean has(int item) {
            return item >= 0 && item < made;
        }

        private boolean hasByte(int item, int i) {
            return i >= 0 && i < sizes[item];
        }

        private boolean isConstant(int item) {
            return usages[item] == CONSTANT;
        }

        private byte byteAt(int item, int i) {
            return bytes[item * PLACES + i];
        }

        private void setByte(int item, int i, byte b) {
            bytes[item * PLACES + i] = b;
        }

        private static boolean isDigit(int b) {
            return b >= ZERO && b < ZERO + 10;
        }

        private boolean isBad(int item) {
            if (usages[item] == BINARY) {
                return false;
            }
            int end = sizes[item] - 1;
            for (int i = 0; i < end; i++) {
                if (!isDigit(byteAt(item, i))) {
                    return true;
                }
            }
            int last = byteAt(item, end);
            return !isDigit(last) && !isDigit(last - SIGN);
        }

        /** What an item says that is not bad. */
        private long says(int item) {
            return usages[item] == BINARY ? binary(item) : decimal(item);
        }

        private long binary(int item) {
            long value = byteAt(item, 0);
            for (int i = 1; i < sizes[item]; i++) {
                value = value << 8 | byteAt(item, i) & 255;
            }
            return value;
        }

        private long decimal(int item) {
            long value = 0;
            for (int i = 0; i < sizes[item]; i++) {
                value = value * 10 + byteAt(item, i) - ZERO;
            }
            // A last byte that is not bad is a digit, or a digit with the sign.
            boolean negative = byteAt(item, sizes[item] - 1) >= ZERO + SIGN;
            return negative ? SIGN - value : value;
        }

        /** Answers whether a byte became another. */
        private boolean add(int item, long v) {
            long says = says(item);
            // Of two numbers with one sign the sum may be beyond a long: its high digits go
            // ahead of the adding, so that the sign and the low digits stay those of the sum.
            boolean oneSign = says < 0 == v < 0;
            long part = usages[item] != BINARY && oneSign ? v % TENS[sizes[item]] : v;
            return write(item, says + part);
        }

        /** Answers whether a byte became another. */
        private boolean write(int item, long v) {
            return usages[item] == BINARY ? writeBinary(item, v) : writeDecimal(item, v);
        }

        private boolean writeBinary(int item, long v) {
            boolean changed = false;
            long rest = v;
            for (int i = sizes[item] - 1; i >= 0; i--) {
                changed |= replaceByte(item, i, (byte) rest);
                rest >>= 8;
            }
            return changed;
        }

        private boolean writeDecimal(int item, long v) {
            int end = sizes[item] - 1;
            long low = v % TENS[sizes[item]];
            // Of the low digits alone: zero has no sign, whatever stood above it.
            int sign = low < 0 ? SIGN : 0;
            long rest = Math.abs(low);
            boolean changed = replaceByte(item, end, (byte) (ZERO + rest % 10 + sign));
            for (int i = end - 1; i >= 0; i--) {
                rest /= 10;
                changed |= replaceByte(item, i, (byte) (ZERO + rest % 10));
            }
            return changed;
        }

        private boolean replaceByte(int item, int i, byte b) {
            int place = item * PLACES + i;
            boolean changed = bytes[place] != b;
            bytes[place] = b;
            return changed;
        }
    }

    /** The stops, each at its number less one. */
    private static final class Stops {
        private static final int MOST = 20;
        private static final int AT_PARAGRAPH = 0;
        private static final int AT_LINE = 1;
        private static final int IF_CHANGED = 2;
        private static final int IF_REACHED = 3;
        private static final int FOR_TASK = 4;

        private final int[] kinds;
        private final int[] ofs;
        private final int[] conditions;
        private int made;

        private Stops() {
            kinds = new int[MOST];
            ofs = new int[MOST];
            conditions = new int[MOST];
        }

        private int make(int kind, int of, int condition) {
            if (made >= MOST) {
                return NONE;
            }
            kinds[made] = kind;
            ofs[made] = of;
            conditions[made] = condition;
            made++;
            return made;
        }

        /** begun is the paragraph whose first statement comes, or NONE (a stop's OF may be NONE too). */
        private int leastAhead(int begun, int line) {
            for (int i = 0; i < made; i++) {
                boolean atParagraph = kinds[i] == AT_PARAGRAPH && begun != NONE && ofs[i] == begun;
                boolean atLine = kinds[i] == AT_LINE && ofs[i] == line;
                if (atParagraph || atLine) {
                    return i + 1;
                }
            }
            return 0;
        }

        private int leastBehind(int changed, Items items) {
            for (int i = 0; i < made; i++) {
                boolean isChanged = kinds[i] == IF_CHANGED && ofs[i] == changed;
                boolean isReached = kinds[i] == IF_REACHED && reaches(items, ofs[i], conditions[i]);
                if (isChanged || isReached) {
                    return i + 1;
                }
            }
            return 0;
        }

        private static boolean reaches(Items items, int item, int condition) {
            return !items.isBad(item) && items.says(item) >= condition;
        }

        private int leastForTask(int code, int terminal) {
            for (int i = 0; i < made; i++) {
                if (kinds[i] == FOR_TASK && ofs[i] == code && conditions[i] == terminal) {
                    return i + 1;
                }
            }
            return 0;
        }
    }

    /** The open performings, the newest one last, and the ones left that a kept statement may open again. */
    private static final class Performings {
        private static final int MOST = 20;
        /** What kept statements left was open ahead of them, or entered by one of them. */
        private static final int MOST_LEFT = MOST + Kept.MOST;

        private final int[] performers;
        private final int[] ends;
        private int open;
        private final int[] leftPerformers;
        private final int[] leftEnds;
        private int nextLeft;

        private Performings() {
            performers = new int[MOST];
            ends = new int[MOST];
            leftPerformers = new int[MOST_LEFT];
            leftEnds = new int[MOST_LEFT];
        }

        private boolean enter(int performer, int end) {
            if (open >= MOST) {
                return false;
            }
            performers[open] = performer;
            ends[open] = end;
            open++;
            return true;
        }

        private boolean endsAt(int number) {
            return open > 0 && ends[open - 1] == number;
        }

        /** Behind endsAt only: answers the statement that performed. */
        private int leave() {
            open--;
            leftPerformers[nextLeft] = performers[open];
            leftEnds[nextLeft] = ends[open];
            nextLeft = (nextLeft + 1) % MOST_LEFT;
            return performers[open];
        }

        private void reopen() {
            nextLeft = (nextLeft + MOST_LEFT - 1) % MOST_LEFT;
            enter(leftPerformers[nextLeft], leftEnds[nextLeft]);
        }

        private void forgetNewest() {
            if (open > 0) {
                open--;
            }
        }

        private int performer(int i) {
            return i >= 0 && i < open ? performers[open - 1 - i] : 0;
        }
    }

    /** The kept statements, in a ring of rows: the oldest row gives its place to the newest. */
    private static final class Kept {
        private static final int MOST = 300;
        private static final int ENTERED = -1;

        private final int[] numbers;
        private final int[] itemsOf;
        private final byte[] bytes;
        /** How many performings the statement left, or ENTERED. */
        private final int[] lefts;
        private int next;
        /** The row of the statement that runs now, or that was taken back last. */
        private int newest;
        private int rows;

        private Kept() {
            numbers = new int[MOST];
            itemsOf = new int[MOST];
            bytes = new byte[MOST * Items.PLACES];
            lefts = new int[MOST];
        }

        private void keep(int number, int item, Items items) {
            newest = next;
            next = (next + 1) % MOST;
            rows = Math.min(rows + 1, MOST);
            numbers[newest] = number;
            itemsOf[newest] = item;
            if (items.has(item)) {
                System.arraycopy(items.bytes, item * Items.PLACES, bytes, newest * Items.PLACES, Items.PLACES);
            }
        }

        private void noteEntered() {
            lefts[newest] = ENTERED;
        }

        private void noteLeft(int left) {
            lefts[newest] = left;
        }

        private void takeNewest() {
            next = (next + MOST - 1) % MOST;
            newest = next;
            rows--;
        }

        private int newestStatement() {
            return numbers[newest];
        }

        private void restoreBytes(Items items) {
            int item = itemsOf[newest];
            if (items.has(item)) {
                System.arraycopy(bytes, newest * Items.PLACES, items.bytes, item * Items.PLACES, Items.PLACES);
            }
        }

        private boolean newestEntered() {
            return lefts[newest] == ENTERED;
        }

        private int newestLeft() {
            return Math.max(0, lefts[newest]);
        }
    }
}
