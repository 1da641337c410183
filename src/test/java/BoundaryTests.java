/**
 * Each sentence of the document that names a boundary case has a test of its own here: the last value that is
 * allowed, the first one that is not, the empty object, the full one, the way round the end, each refused call.
 */
public final class BoundaryTests extends Checks {
    private static final String NO_ITEM = "IllegalArgumentException";
    private static final String BAD = "IllegalStateException";
    private static final String NO_BYTE = "ArrayIndexOutOfBoundsException";

    private static final int DIGITS = 0;
    private static final int BINARY = 1;
    private static final int CONSTANT = 2;

    public static void main(String[] args) {
        emptyObject();
        emptyObjectRefuses();

        statementsAtMost100();
        paragraphsFrom0To19();
        linesFrom1To9999();
        statementRefusals();
        firstOfSeveralRuns();
        firstStatementOfAnEmptyProgram();
        statementAtTheEnd();

        itemsAtMost30();
        usagesAndSizes();
        itemRefusals();
        itemsAtFirst();

        stepStatements();
        stepItems();
        stepParagraphs();
        stepRefusals();

        digitsGoRound();
        digitsBeyondALong();
        zeroWithoutASign();
        bytesGoRound();
        constantStays();
        badItemStays();
        digitsOfABadItem();

        endOfTheProgram();
        endOfAPerforming();
        twentyPerformings();
        paragraphThatIsNotThere();
        lastOneAsItWasThen();

        stopsAtMost20();
        stopKinds();
        stopItems();
        stopRefusals();
        stopAheadOfAParagraph();
        stopAheadOfALine();
        stopBehindAChange();
        stopBehindACondition();
        stopForATaskStopsNothing();
        stopOrder();

        runFrom0To200();
        runRefusals();
        runToTheEnd();

        showBoundaries();
        changeBoundaries();

        keptAtMost300();
        keptRoundTheEnd();
        backFrom0ToKept();
        backRefusals();
        backThroughALeaving();
        backLeavesFaults();

        performedFrom0();
        countFrom0To19();
        caughtBoundaries();
        nearBoundaries();
        octetBoundaries();
        pokeBoundaries();
        pokeBytes();
        toldFrom0To6();
        end();
    }

    private static String state(CobolDebugger x) {
        StringBuilder all = new StringBuilder();
        for (int what = 0; what <= 6; what++) {
            all.append(x.told(what)).append(' ');
        }
        for (int paragraph = 0; paragraph < 20; paragraph++) {
            all.append(x.count(paragraph)).append(' ');
        }
        for (int i = 0; i < x.told(6); i++) {
            all.append(x.performed(i)).append(' ');
        }
        for (int item = 0; item < x.told(1) && item < 4; item++) {
            all.append('[').append(bytesOf(x, item, 3)).append(']');
        }
        return all.toString();
    }

    /** A program with all that it can have, in the middle of a run. */
    private static CobolDebugger underWay() {
        CobolDebugger x = program(0, 0, 1, 1, 2, 0);
        x.item(DIGITS, 2);
        x.item(BINARY, 2);
        x.item(CONSTANT, 2);
        x.item(DIGITS, 1);
        x.poke(3, 0, (byte) 1);
        x.step(1, 0, 7);
        x.step(2, performing(1), 0);
        x.step(3, 3, 1);
        x.step(4, performing(2), 0);
        x.step(5, 1, -2);
        x.step(6, 0, -9);
        x.stop(1, 60, 0);
        x.stop(3, 0, 90);
        x.stop(4, 5, 6);
        x.run(4);
        return x;
    }

    /** What can be seen of it from here on, forwards and backwards. */
    private static String story(CobolDebugger x) {
        StringBuilder all = new StringBuilder(state(x));
        all.append(" caught ").append(x.caught(5, 6));
        all.append(" ran ").append(x.run(9)).append(' ').append(state(x));
        all.append(" ran ").append(x.run(9)).append(' ').append(state(x));
        all.append(" back ").append(x.back(6)).append(' ').append(state(x));
        return all.toString();
    }

    /** The call has this answer, and leaves a program that is under way as it was. */
    private static void refused(String what, String want, Call call) {
        CobolDebugger x = underWay();
        dueText(what, answer(x, call), want);
        dueText(what + ", then", story(x), story(underWay()));
    }

    private static void refused(String what, int want, Call call) {
        refused(what, Integer.toString(want), call);
    }

    private static CobolDebugger withItem(int usage, int size) {
        CobolDebugger x = program(0);
        x.item(usage, size);
        return x;
    }

    private static CobolDebugger changed(int usage, int size, long v) {
        CobolDebugger x = withItem(usage, size);
        x.change(0, v);
        return x;
    }

    /** An item that says from, and gets v more by a statement. */
    private static CobolDebugger added(int usage, int size, long from, long v) {
        CobolDebugger x = changed(usage, size, from);
        x.step(1, 0, v);
        x.run(1);
        return x;
    }

    private static CobolDebugger fullOfStatements() {
        CobolDebugger x = new CobolDebugger();
        for (int i = 1; i <= 100; i++) {
            x.statement(0, i);
        }
        return x;
    }

    private static CobolDebugger fullOfItems(int usage, int size) {
        CobolDebugger x = program(0);
        for (int i = 0; i < 30; i++) {
            x.item(usage, size);
        }
        return x;
    }

    /** A hundred statements that go round by performing: twenty times and once more. */
    private static CobolDebugger round() {
        CobolDebugger x = fullOfStatements();
        x.item(BINARY, 2);
        for (int i = 1; i < 100; i++) {
            x.step(i, 0, 1);
        }
        x.step(100, performing(0), 0);
        return x;
    }

    private static void runInAll(CobolDebugger x, int statements) {
        for (int left = statements; left > 0; left -= 200) {
            x.run(Math.min(left, 200));
        }
    }

    private static long power(int ten, int times) {
        long all = 1;
        for (int i = 0; i < times; i++) {
            all *= ten;
        }
        return all;
    }

    // Promise 1

    private static void emptyObject() {
        CobolDebugger x = new CobolDebugger();
        for (int what = 0; what <= 6; what++) {
            due("empty: told " + what, x.told(what), 0);
        }
        for (int paragraph = 0; paragraph < 20; paragraph++) {
            due("empty: count " + paragraph, x.count(paragraph), 0);
        }
        due("empty: run 0", x.run(0), 0);
        due("empty: run 1", x.run(1), 0);
        due("empty: run 200", x.run(200), 0);
        due("empty: nothing was run", x.told(4), 0);
        due("empty: stands nowhere", x.told(3), 0);
        due("empty: back 0", x.back(0), 0);
        due("empty: performed", x.performed(0), 0);
        due("empty: caught", x.caught(0, 0), 0);
        due("empty: near 0", x.near(0), -1);
        due("empty: near the least", x.near(MIN), -1);
        due("empty: near the most", x.near(MAX), -1);
    }

    private static void emptyObjectRefuses() {
        CobolDebugger x = new CobolDebugger();
        due("empty: step 0", x.step(0, -1, 0), -2);
        due("empty: step 1", x.step(1, -1, 0), -2);
        due("empty: stop, changed", x.stop(2, 0, 0), -2);
        due("empty: stop, condition", x.stop(3, 0, 0), -2);
        dueText("empty: show", shown(x, 0), NO_ITEM);
        due("empty: change", x.change(0, 0), -2);
        due("empty: back 1", x.back(1), -4);
        dueText("empty: octet", byteOf(x, 0, 0), NO_BYTE);
        due("empty: poke", x.poke(0, 0, (byte) 48), -2);
        for (int what = 0; what <= 6; what++) {
            due("empty: still, told " + what, x.told(what), 0);
        }
    }

    // Promise 2, and its terms

    private static void statementsAtMost100() {
        CobolDebugger x = new CobolDebugger();
        for (int i = 1; i <= 100; i++) {
            due("at most 100: number", x.statement(3, i), i);
            due("at most 100: told", x.told(0), i);
        }
        due("at most 100: the 101st", x.statement(3, 101), -1);
        due("at most 100: the 102nd", x.statement(4, 1), -1);
        due("at most 100: wrong comes ahead of full", x.statement(3, 0), -4);
        due("at most 100: wrong paragraph too", x.statement(20, 1), -4);
        due("at most 100: told of the full one", x.told(0), 100);
        due("at most 100: the last one does something", x.step(100, -1, 0), 1);
        due("at most 100: all run", x.run(200), 0);
        due("at most 100: each one", x.count(3), 100);
        due("at most 100: no other paragraph", x.count(4), 0);
        due("at most 100: then the end", x.told(3), 0);
        due("at most 100: still full", x.statement(3, 1), -1);
    }

    private static void paragraphsFrom0To19() {
        CobolDebugger x = new CobolDebugger();
        for (int paragraph = 0; paragraph < 20; paragraph++) {
            due("paragraph " + paragraph, x.statement(paragraph, 5), paragraph + 1);
        }
        x.run(20);
        for (int paragraph = 0; paragraph < 20; paragraph++) {
            due("paragraph " + paragraph + " was run", x.count(paragraph), 1);
        }
        refused("paragraph -1", -4, y -> y.statement(-1, 5));
        refused("paragraph 20", -4, y -> y.statement(20, 5));
        refused("the least paragraph", -4, y -> y.statement(MIN, 5));
        refused("the most paragraph", -4, y -> y.statement(MAX, 5));
    }

    private static void linesFrom1To9999() {
        CobolDebugger x = program(0);
        due("line 1", x.statement(0, 1), 2);
        due("line 9999", x.statement(0, 9999), 3);
        x.stop(1, 1, 0);
        x.stop(1, 9999, 0);
        due("line 1 stops", x.run(9), 1);
        due("line 9999 stops", x.run(9), 2);
        due("line 9999 is ahead", x.told(3), 3);
        refused("line 0", -4, y -> y.statement(0, 0));
        refused("line 10000", -4, y -> y.statement(0, 10000));
        refused("the least line", -4, y -> y.statement(0, MIN));
        refused("the most line", -4, y -> y.statement(0, MAX));
    }

    private static void statementRefusals() {
        refused("both are wrong", -4, y -> y.statement(-1, 0));
        CobolDebugger x = new CobolDebugger();
        x.statement(20, 1);
        x.statement(0, 0);
        due("a refused one does not begin a program", x.told(3), 0);
        due("and has no number", x.statement(0, 1), 1);
    }

    private static void firstOfSeveralRuns() {
        CobolDebugger x = program(0, 5, 5, 1, 5, 5, 5);
        x.step(1, performing(5), 0);
        x.stop(0, 5, 0);
        due("several runs: the first is performed", x.run(9), 1);
        due("several runs: its first statement", x.told(3), 2);
        due("several runs: performing", x.told(6), 1);
        x.run(2);
        due("several runs: its last statement ends it", x.told(3), 2);
        due("several runs: not performing", x.told(6), 0);
        due("several runs: a later one stops nothing", x.run(9), 0);
        due("several runs: to the end", x.told(3), 0);
    }

    private static void firstStatementOfAnEmptyProgram() {
        CobolDebugger x = new CobolDebugger();
        due("the first one at first: ahead of it", x.told(3), 0);
        x.statement(0, 1);
        due("the first one at first", x.told(3), 1);
        x.statement(0, 2);
        due("the first one stays the next", x.told(3), 1);
        x.run(1);
        x.statement(0, 3);
        due("a new one is not the next", x.told(3), 2);
    }

    private static void statementAtTheEnd() {
        CobolDebugger x = program(0);
        x.run(1);
        due("at its end", x.told(3), 0);
        due("at its end: one more", x.statement(0, 2), 2);
        due("at its end: it stays there", x.told(3), 0);
        due("at its end: and one more", x.statement(1, 3), 3);
        due("at its end: it stays there still", x.told(3), 0);
        due("at its end: runs nothing", x.run(200), 0);
        due("at its end: nothing was kept", x.told(4), 1);
        due("at its end: back", x.back(1), 1);
        dueText("at its end: the new ones come then", walk(x, 5), "2 3 0");

        CobolDebugger last = program(0, 0);
        last.run(1);
        last.statement(0, 3);
        dueText("ahead of the last one: the new one follows", walk(last, 5), "3 0");
    }

    // Promise 3, and its terms

    private static void itemsAtMost30() {
        CobolDebugger x = program(0);
        for (int i = 0; i < 30; i++) {
            due("at most 30: number", x.item(i % 3, 1), i);
            due("at most 30: told", x.told(1), i + 1);
        }
        due("at most 30: the 31st", x.item(0, 1), -1);
        due("at most 30: of another usage", x.item(1, 4), -1);
        due("at most 30: wrong comes ahead of full", x.item(3, 1), -4);
        due("at most 30: a wrong size too", x.item(1, 5), -4);
        due("at most 30: told of the full one", x.told(1), 30);

        CobolDebugger full = fullOfItems(DIGITS, 9);
        due("at most 30: a step of the last one", full.step(1, 29, -123456789), 1);
        due("at most 30: a step of none", full.step(1, 30, 1), -2);
        due("at most 30: a stop of the last one", full.stop(2, 29, 0), 1);
        due("at most 30: a stop of none", full.stop(2, 30, 0), -2);
        full.change(28, 111111111);
        due("at most 30: the last one changes", full.run(1), 1);
        dueText("at most 30: the last one", bytesOf(full, 29, 9), "49 50 51 52 53 54 55 56 121");
        dueText("at most 30: the one beside it", bytesOf(full, 28, 9), "49 49 49 49 49 49 49 49 49");
        dueText("at most 30: the one beside that", shown(full, 27), "0");
        full.back(1);
        dueText("at most 30: the last one goes back", shown(full, 29), "0");
        dueText("at most 30: the one beside it does not", shown(full, 28), "111111111");
    }

    private static void usagesAndSizes() {
        int[] most = {9, 4, 9};
        for (int usage = -2; usage <= 4; usage++) {
            for (int size = -2; size <= 11; size++) {
                boolean good = usage >= 0 && usage <= 2 && size >= 1 && size <= most[usage];
                CobolDebugger x = new CobolDebugger();
                due("usage " + usage + ", size " + size, x.item(usage, size), good ? 0 : -4);
                due("usage " + usage + ", size " + size + ", told", x.told(1), good ? 1 : 0);
                dueText("usage " + usage + ", size " + size + ", its last byte",
                    byteOf(x, 0, size - 1), !good ? NO_BYTE : usage == BINARY ? "0" : "48");
                dueText("usage " + usage + ", size " + size + ", no more bytes", byteOf(x, 0, Math.max(0, size)), NO_BYTE);
            }
        }
    }

    private static void itemRefusals() {
        refused("usage -1", -4, y -> y.item(-1, 1));
        refused("usage 3", -4, y -> y.item(3, 1));
        refused("the least usage", -4, y -> y.item(MIN, 1));
        refused("the most usage", -4, y -> y.item(MAX, 1));
        refused("no digits", -4, y -> y.item(0, 0));
        refused("ten digits", -4, y -> y.item(0, 10));
        refused("no bytes", -4, y -> y.item(1, 0));
        refused("five bytes", -4, y -> y.item(1, 5));
        refused("a constant of none", -4, y -> y.item(2, 0));
        refused("a constant of ten", -4, y -> y.item(2, 10));
        refused("the least size", -4, y -> y.item(1, MIN));
        refused("the most size", -4, y -> y.item(0, MAX));
    }

    private static void itemsAtFirst() {
        for (int size = 1; size <= 9; size++) {
            dueText("at first: digits", shown(withItem(DIGITS, size), 0), "0");
            dueText("at first: constants", shown(withItem(CONSTANT, size), 0), "0");
            dueText("at first: the first digit", byteOf(withItem(DIGITS, size), 0, 0), "48");
            dueText("at first: the first of a constant", byteOf(withItem(CONSTANT, size), 0, 0), "48");
        }
        for (int size = 1; size <= 4; size++) {
            dueText("at first: binary", shown(withItem(BINARY, size), 0), "0");
            dueText("at first: the first byte", byteOf(withItem(BINARY, size), 0, 0), "0");
        }
    }

    // Promise 4

    private static void stepStatements() {
        CobolDebugger x = fullOfStatements();
        due("step: statement 1", x.step(1, -1, 0), 1);
        due("step: statement 100", x.step(100, -1, 0), 1);
        due("step: statement 101", x.step(101, -1, 0), -2);
        due("step: statement 0", x.step(0, -1, 0), -2);
        CobolDebugger two = program(0, 0);
        due("step: the last one of two", two.step(2, -1, 0), 1);
        due("step: the third one of two", two.step(3, -1, 0), -2);
    }

    private static void stepItems() {
        CobolDebugger x = fullOfItems(BINARY, 1);
        due("step: item 0", x.step(1, 0, 1), 1);
        due("step: item 29", x.step(1, 29, 1), 1);
        due("step: item 30", x.step(1, 30, 1), -2);
        due("step: the most item", x.step(1, MAX, 1), -2);
        x.run(1);
        dueText("step: the last good one counts", shown(x, 29), "1");
        dueText("step: not the first", shown(x, 0), "0");
    }

    private static void stepParagraphs() {
        CobolDebugger low = program(1, 0);
        due("step: paragraph 0", low.step(1, -2, 5), 1);
        low.run(1);
        due("step: performs paragraph 0", low.told(3), 2);
        due("step: is performing", low.told(6), 1);

        CobolDebugger high = program(1, 18, 19);
        due("step: paragraph 19", high.step(1, -21, 5), 1);
        high.run(1);
        due("step: performs paragraph 19", high.told(3), 3);

        CobolDebugger nothing = program(1, 1);
        nothing.item(DIGITS, 1);
        nothing.step(1, 0, 5);
        due("step: nothing", nothing.step(1, -1, 5), 1);
        nothing.run(1);
        dueText("step: does nothing any more", shown(nothing, 0), "0");
        due("step: performs nothing", nothing.told(6), 0);
        due("step: is no fault", nothing.told(5), 0);
    }

    private static void stepRefusals() {
        refused("step: statement -1", -2, y -> y.step(-1, 0, 1));
        refused("step: statement 0 ", -2, y -> y.step(0, 0, 1));
        refused("step: statement 7 of 6", -2, y -> y.step(7, 0, 1));
        refused("step: the least statement", -2, y -> y.step(MIN, 0, 1));
        refused("step: the most statement", -2, y -> y.step(MAX, 0, 1));
        refused("step: item 4 of 4", -2, y -> y.step(5, 4, 1));
        refused("step: the most item of 4", -2, y -> y.step(5, MAX, 1));
        refused("step: paragraph 20", -4, y -> y.step(5, -22, 1));
        refused("step: paragraph 21", -4, y -> y.step(5, -23, 1));
        refused("step: the least item", -4, y -> y.step(5, MIN, 1));
        refused("step: no statement comes ahead of no paragraph", -2, y -> y.step(7, -22, 1));
    }

    // What a statement does

    private static void digitsGoRound() {
        for (int size = 1; size <= 9; size++) {
            long most = power(10, size) - 1;
            String name = "digits " + size + ": ";
            dueText(name + "the most", shown(changed(DIGITS, size, most), 0), Long.toString(most));
            dueText(name + "the least", shown(changed(DIGITS, size, -most), 0), Long.toString(-most));
            dueText(name + "up to the most", shown(added(DIGITS, size, most - 1, 1), 0), Long.toString(most));
            dueText(name + "round the most", shown(added(DIGITS, size, most, 1), 0), "0");
            dueText(name + "round the most by two", shown(added(DIGITS, size, most, 2), 0), "1");
            dueText(name + "down to the least", shown(added(DIGITS, size, 1 - most, -1), 0), Long.toString(-most));
            dueText(name + "round the least", shown(added(DIGITS, size, -most, -1), 0), "0");
            dueText(name + "round the least by two", shown(added(DIGITS, size, -most, -2), 0), "-1");
            dueText(name + "once round", shown(added(DIGITS, size, 0, most + 1), 0), "0");
            dueText(name + "less than once round", shown(added(DIGITS, size, most, -most - 1), 0), "-1");
            dueText(name + "changed to one more than the most", shown(changed(DIGITS, size, most + 2), 0), "1");
            dueText(name + "changed to one less than the least", shown(changed(DIGITS, size, -most - 2), 0), "-1");
        }
    }

    private static void digitsBeyondALong() {
        // The true sums are 9223372036854775808, .. 816 and -9223372036854775809, .. 817.
        dueText("beyond a long: by one", shown(added(DIGITS, 9, 1, Long.MAX_VALUE), 0), "854775808");
        dueText("beyond a long: by nine", shown(added(DIGITS, 1, 9, Long.MAX_VALUE), 0), "6");
        dueText("below a long: by one", shown(added(DIGITS, 9, -1, Long.MIN_VALUE), 0), "-854775809");
        dueText("below a long: by nine", shown(added(DIGITS, 1, -9, Long.MIN_VALUE), 0), "-7");
        dueText("the most long", shown(added(DIGITS, 9, 0, Long.MAX_VALUE), 0), "854775807");
        dueText("the least long", shown(added(DIGITS, 9, 0, Long.MIN_VALUE), 0), "-854775808");
        dueText("the most long less one", shown(added(DIGITS, 9, -1, Long.MAX_VALUE), 0), "854775806");
        dueText("the least long and one", shown(added(DIGITS, 9, 1, Long.MIN_VALUE), 0), "-854775807");
        dueText("changed to the most long", shown(changed(DIGITS, 9, Long.MAX_VALUE), 0), "854775807");
        dueText("changed to the least long", shown(changed(DIGITS, 9, Long.MIN_VALUE), 0), "-854775808");
    }

    private static void zeroWithoutASign() {
        dueText("zero: from below", bytesOf(added(DIGITS, 2, -1, 1), 0, 2), "48 48");
        dueText("zero: round the least", bytesOf(added(DIGITS, 2, -99, -1), 0, 2), "48 48");
        dueText("zero: low digits of a negative one", bytesOf(changed(DIGITS, 2, -500), 0, 2), "48 48");
        dueText("not zero: a negative one ends in it", bytesOf(changed(DIGITS, 2, -10), 0, 2), "49 112");
        dueText("not zero: a negative one", bytesOf(changed(DIGITS, 2, -1), 0, 2), "48 113");
        dueText("not zero: the least", bytesOf(changed(DIGITS, 2, -99), 0, 2), "57 121");
        dueText("not zero: the most", bytesOf(changed(DIGITS, 2, 99), 0, 2), "57 57");

        CobolDebugger x = withItem(DIGITS, 1);
        x.poke(0, 0, (byte) 112);
        dueText("zero: a sign that was poked", shown(x, 0), "0");
        x.step(1, 0, 0);
        x.run(1);
        dueText("zero: it goes with the next statement", byteOf(x, 0, 0), "48");
    }

    private static void bytesGoRound() {
        for (int size = 1; size <= 4; size++) {
            long most = power(2, 8 * size - 1) - 1;
            long least = -most - 1;
            String name = "binary " + size + ": ";
            dueText(name + "the most", shown(changed(BINARY, size, most), 0), Long.toString(most));
            dueText(name + "its first byte", byteOf(changed(BINARY, size, most), 0, 0), "127");
            dueText(name + "the least", shown(changed(BINARY, size, least), 0), Long.toString(least));
            dueText(name + "the first byte of the least", byteOf(changed(BINARY, size, least), 0, 0), "-128");
            dueText(name + "up to the most", shown(added(BINARY, size, most - 1, 1), 0), Long.toString(most));
            dueText(name + "round the most", shown(added(BINARY, size, most, 1), 0), Long.toString(least));
            dueText(name + "down to the least", shown(added(BINARY, size, least + 1, -1), 0), Long.toString(least));
            dueText(name + "round the least", shown(added(BINARY, size, least, -1), 0), Long.toString(most));
            dueText(name + "once round", shown(added(BINARY, size, 5, 2 * (most + 1)), 0), "5");
            dueText(name + "up to zero", shown(added(BINARY, size, -1, 1), 0), "0");
            dueText(name + "down from zero", shown(added(BINARY, size, 0, -1), 0), "-1");
            dueText(name + "the most long and one", shown(added(BINARY, size, 1, Long.MAX_VALUE), 0), "0");
            dueText(name + "the least long less one", shown(added(BINARY, size, -1, Long.MIN_VALUE), 0), "-1");
            dueText(name + "changed to the least long", shown(changed(BINARY, size, Long.MIN_VALUE), 0), "0");
            dueText(name + "changed to the most long", shown(changed(BINARY, size, Long.MAX_VALUE), 0), "-1");
        }
        dueText("binary: the highest first", bytesOf(changed(BINARY, 4, 0x01020304), 0, 4), "1 2 3 4");
        dueText("binary: no sign inside", shown(changed(BINARY, 2, 0x7F80), 0), Integer.toString(0x7F80));
    }

    private static void constantStays() {
        CobolDebugger x = added(CONSTANT, 2, 0, 5);
        dueText("constant: a statement", bytesOf(x, 0, 2), "48 48");
        due("constant: no fault", x.told(5), 0);
        due("constant: the statement is kept", x.told(4), 1);
        due("constant: change", x.change(0, 5), 0);
        due("constant: poke", x.poke(0, 0, (byte) 49), 0);
        dueText("constant: says", shown(x, 0), "0");
        dueText("constant: its bytes", bytesOf(x, 0, 2), "48 48");
        due("constant: back", x.back(1), 1);
        due("constant: a stop behind its change", x.stop(2, 0, 0), 1);
        due("constant: is never met", x.run(1), 0);
    }

    private static void badItemStays() {
        CobolDebugger x = program(0, 0);
        x.item(DIGITS, 2);
        x.step(1, 0, 5);
        x.stop(2, 0, 0);
        x.poke(0, 0, (byte) 58);
        due("bad: no stop behind it", x.run(1), 0);
        dueText("bad: a statement", bytesOf(x, 0, 2), "58 48");
        due("bad: a fault", x.told(5), 1);
        due("bad: it goes on", x.told(3), 2);
        due("bad: the statement is kept", x.told(4), 1);
        due("bad: and counted", x.count(0), 1);
        due("bad: change mends it", x.change(0, 12), 1);
        dueText("bad: mended", shown(x, 0), "12");
        due("bad: its old bytes come back", x.back(1), 1);
        dueText("bad: again", shown(x, 0), BAD);
        x.poke(0, 0, (byte) 57);
        due("bad: a digit mends it", x.run(1), 1);
        dueText("bad: so it gets more", shown(x, 0), "95");
        due("bad: one fault in all", x.told(5), 1);
    }

    private static CobolDebugger poked(int usage, int size, int i, int b) {
        CobolDebugger x = withItem(usage, size);
        x.poke(0, i, (byte) b);
        x.step(1, 0, 1);
        return x;
    }

    private static void digitsOfABadItem() {
        for (int b = -128; b <= 127; b++) {
            boolean digit = b >= 48 && b <= 57;
            boolean negative = b >= 112 && b <= 121;
            long says = digit ? b - 48 : 112 - b;
            dueTold("the first byte " + b, poked(DIGITS, 2, 0, b), digit, 10 * says);
            dueTold("a byte inside " + b, poked(DIGITS, 3, 1, b), digit, 10 * says);
            dueTold("the last byte " + b, poked(DIGITS, 2, 1, b), digit || negative, says);
            dueTold("the only byte " + b, poked(DIGITS, 1, 0, b), digit || negative, says);
            dueTold("a binary byte " + b, poked(BINARY, 1, 0, b), true, b);
        }
    }

    /** Both for show and for a statement. */
    private static void dueTold(String what, CobolDebugger x, boolean good, long says) {
        dueText(what + ": show", shown(x, 0), good ? Long.toString(says) : BAD);
        x.run(1);
        due(what + ": faults", x.told(5), good ? 0 : 1);
    }

    // Where the program stands, and performing

    private static void endOfTheProgram() {
        CobolDebugger x = program(0);
        due("end: stands at the only one", x.told(3), 1);
        x.run(1);
        due("end: 0 behind it", x.told(3), 0);
        due("end: nothing runs there", x.run(1), 0);
        due("end: nothing is kept there", x.told(4), 1);

        CobolDebugger performs = program(0, 1);
        performs.step(2, performing(0), 0);
        dueText("end: behind the last one, that performed", walk(performs, 5), "2 1 0");

        CobolDebugger fault = program(0);
        fault.step(1, performing(9), 0);
        fault.run(1);
        due("end: behind a fault of the last one", fault.told(3), 0);
    }

    private static void endOfAPerforming() {
        CobolDebugger single = program(0, 0, 1);
        single.step(1, performing(1), 0);
        dueText("a paragraph of one statement", walk(single, 3), "3 2 3");
        due("it is left", single.told(6), 0);

        CobolDebugger chain = program(0, 0, 1, 2, 3);
        chain.step(1, performing(1), 0);
        chain.step(3, performing(2), 0);
        chain.step(4, performing(3), 0);
        chain.run(3);
        due("and so on: three are open", chain.told(6), 3);
        chain.run(1);
        due("and so on: all are left at once", chain.told(6), 0);
        due("and so on: behind the first of all", chain.told(3), 2);

        CobolDebugger part = program(0, 0, 1, 1, 2);
        part.step(1, performing(1), 0);
        part.step(3, performing(2), 0);
        part.run(3);
        due("and so on: not when there is one behind", part.told(6), 1);
        due("and so on: it goes there", part.told(3), 4);

        CobolDebugger plain = program(0, 1, 2);
        plain.step(1, performing(2), 0);
        dueText("not performed: an end is no end", walk(plain, 9), "3 2 3 0");

        // Paragraph 1 is performed with its end at 2, and within that once more, with its end at 3.
        CobolDebugger newest = program(0, 1);
        newest.step(1, performing(1), 0);
        newest.run(1);
        newest.statement(1, 30);
        newest.step(2, performing(1), 0);
        newest.run(1);
        newest.step(2, -1, 0);
        due("the newest of all counts: two are open", newest.told(6), 2);
        newest.run(1);
        due("the newest of all counts: an older one's end is no end", newest.told(3), 3);
        newest.run(1);
        due("the newest of all counts: its own is, and the older one's then", newest.told(3), 2);
        due("the newest of all counts: both are left", newest.told(6), 0);
    }

    private static CobolDebugger deep(int performings) {
        CobolDebugger x = program(0, 0, 0);
        x.step(1, performing(0), 0);
        x.run(performings);
        return x;
    }

    private static void twentyPerformings() {
        CobolDebugger x = deep(19);
        due("performings: 19", x.told(6), 19);
        x.run(1);
        due("performings: the 20th", x.told(6), 20);
        due("performings: is no fault", x.told(5), 0);
        due("performings: stands in it", x.told(3), 1);
        x.run(1);
        due("performings: the 21st is not open", x.told(6), 20);
        due("performings: is a fault", x.told(5), 1);
        due("performings: goes on behind that statement", x.told(3), 2);
        due("performings: it is counted", x.count(0), 21);
        due("performings: the oldest one", x.performed(19), 1);

        x.run(2);
        due("performings: one was left", x.told(6), 19);
        due("performings: behind the one that performed", x.told(3), 2);
        x.step(2, performing(0), 0);
        x.run(1);
        due("performings: there is room for one again", x.told(6), 20);
        due("performings: no other fault", x.told(5), 1);
        due("performings: by the second one", x.performed(0), 2);
        x.run(1);
        due("performings: and for no other", x.told(5), 2);

        CobolDebugger ends = program(0);
        ends.step(1, performing(0), 0);
        ends.run(20);
        due("twenty ends: all are open", ends.told(6), 20);
        ends.run(1);
        due("twenty ends: the fault leaves them all", ends.told(6), 0);
        due("twenty ends: and it is the end", ends.told(3), 0);
    }

    private static void paragraphThatIsNotThere() {
        CobolDebugger x = program(0, 1, 0);
        x.step(1, performing(2), 0);
        x.run(1);
        due("not there: a fault", x.told(5), 1);
        due("not there: goes on behind", x.told(3), 2);
        due("not there: is not open", x.told(6), 0);
        due("not there: is kept", x.told(4), 1);

        CobolDebugger within = program(0, 0, 1);
        within.step(1, performing(1), 0);
        within.step(3, performing(19), 0);
        within.run(2);
        due("not there: at a performing's end it goes back too", within.told(3), 2);
        due("not there: that one is left", within.told(6), 0);

        CobolDebugger later = program(0, 0);
        later.step(1, performing(7), 0);
        later.run(1);
        later.statement(7, 5);
        later.back(1);
        later.run(1);
        due("not there: it is when it has come", later.told(3), 3);
        due("not there: no second fault", later.told(5), 1);
    }

    private static void lastOneAsItWasThen() {
        CobolDebugger x = program(0, 0, 1);
        x.step(1, performing(1), 0);
        x.run(1);
        x.statement(1, 40);
        x.run(1);
        due("as it was: ends at the old last one", x.told(3), 2);
        x.back(2);
        x.run(2);
        due("as it was: performed again it has the new one", x.told(3), 4);
        x.run(1);
        due("as it was: and ends there", x.told(3), 2);
    }

    // Promise 5, and its terms

    private static void stopsAtMost20() {
        CobolDebugger x = program(0, 0);
        for (int i = 1; i <= 19; i++) {
            due("at most 20: number", x.stop(4, 0, i), i);
            due("at most 20: told", x.told(2), i);
        }
        due("at most 20: the 20th", x.stop(1, 20, 0), 20);
        due("at most 20: the 21st", x.stop(1, 20, 0), -1);
        due("at most 20: wrong comes ahead of full", x.stop(5, 0, 0), -4);
        due("at most 20: no item comes ahead of full", x.stop(2, 0, 0), -2);
        due("at most 20: for a condition too", x.stop(3, 0, 0), -2);
        due("at most 20: told of the full one", x.told(2), 20);
        due("at most 20: the last one stops", x.run(2), 20);
        due("at most 20: the last task", x.caught(0, 19), 19);
    }

    private static void stopKinds() {
        for (int kind = -2; kind <= 6; kind++) {
            CobolDebugger x = withItem(DIGITS, 1);
            boolean good = kind >= 0 && kind <= 4;
            due("kind " + kind, x.stop(kind, 0, 0), good ? 1 : -4);
            due("kind " + kind + ", told", x.told(2), good ? 1 : 0);
        }
    }

    private static void stopItems() {
        for (int kind = 0; kind <= 4; kind++) {
            boolean ofItem = kind == 2 || kind == 3;
            int[] none = {MIN, -1, 30, MAX};
            for (int of : none) {
                CobolDebugger x = fullOfItems(DIGITS, 1);
                due("kind " + kind + " of " + of, x.stop(kind, of, 0), ofItem ? -2 : 1);
            }
            CobolDebugger x = fullOfItems(DIGITS, 1);
            due("kind " + kind + " of 0", x.stop(kind, 0, MIN), 1);
            due("kind " + kind + " of 29", x.stop(kind, 29, MAX), 2);
        }
    }

    private static void stopRefusals() {
        refused("stop: kind -1", -4, y -> y.stop(-1, 0, 0));
        refused("stop: kind 5", -4, y -> y.stop(5, 0, 0));
        refused("stop: the least kind", -4, y -> y.stop(MIN, 0, 0));
        refused("stop: the most kind", -4, y -> y.stop(MAX, 0, 0));
        refused("stop: changed, item -1", -2, y -> y.stop(2, -1, 0));
        refused("stop: changed, item 4 of 4", -2, y -> y.stop(2, 4, 0));
        refused("stop: condition, item -1", -2, y -> y.stop(3, -1, MIN));
        refused("stop: condition, item 4 of 4", -2, y -> y.stop(3, 4, MIN));
        refused("stop: a wrong kind comes ahead of no item", -4, y -> y.stop(5, 4, 0));
    }

    private static void stopAheadOfAParagraph() {
        CobolDebugger x = program(1, 19, 19, 0);
        x.stop(0, 0, 0);
        x.stop(0, 19, 0);
        x.stop(0, 20, 0);
        x.stop(0, -1, 0);
        due("ahead of paragraph 19", x.run(9), 2);
        due("ahead of paragraph 19: its first one", x.told(3), 2);
        due("ahead of paragraph 0, from the first of 19", x.run(9), 1);
        due("ahead of paragraph 0: its first one", x.told(3), 4);
        due("there are no others", x.run(9), 0);

        CobolDebugger none = program(1, 2, 2);
        none.stop(0, -1, 0);
        none.stop(0, 20, 0);
        none.stop(0, MIN, 0);
        none.stop(0, MAX, 0);
        due("paragraphs that cannot be", none.run(9), 0);

        CobolDebugger first = program(1, 1);
        first.stop(0, 1, 0);
        due("not ahead of a run's first one", first.run(2), 0);

        CobolDebugger grown = program(1);
        grown.stop(0, 2, 0);
        grown.statement(2, 9);
        due("a paragraph that comes later", grown.run(9), 1);
    }

    private static void stopAheadOfALine() {
        CobolDebugger x = new CobolDebugger();
        x.statement(0, 7);
        x.statement(0, 8);
        x.statement(0, 7);
        x.statement(0, 9);
        x.stop(1, 7, 0);
        x.stop(1, 6, 0);
        x.stop(1, 0, 0);
        x.stop(1, 10, 0);
        due("a line: not ahead of a run's first one, but of the third", x.run(9), 1);
        due("a line: stands there", x.told(3), 3);
        due("a line: each one of its statements, but as a run's first", x.run(9), 0);
        due("a line: one less and one more do not stop", x.told(3), 0);

        CobolDebugger room = program(0, 0);
        room.stop(1, 20, 0);
        due("a line: not ahead of one behind the n-th", room.run(1), 0);
        due("a line: nor ahead of the next run's first", room.run(1), 0);
    }

    private static void stopBehindAChange() {
        CobolDebugger x = program(0, 0, 0, 0);
        x.item(DIGITS, 1);
        x.item(BINARY, 1);
        x.step(1, 0, 10);
        x.step(2, 1, 256);
        x.step(3, 0, 0);
        x.step(4, 1, 255);
        x.stop(2, 0, 0);
        x.stop(2, 1, 0);
        due("a change: round to the same bytes is none", x.run(3), 0);
        due("a change: one less than round", x.run(1), 2);
        due("a change: behind the last one, at the end", x.told(3), 0);

        CobolDebugger first = program(0, 0);
        first.item(DIGITS, 9);
        first.step(1, 0, 100000000);
        first.stop(2, 0, 0);
        due("a change: behind a run's first one, of the first byte", first.run(2), 1);
        due("a change: one was run", first.told(3), 2);

        CobolDebugger middle = program(0, 0);
        middle.item(DIGITS, 9);
        middle.step(1, 0, 10000);
        middle.stop(2, 0, 0);
        due("a change: of a byte inside", middle.run(2), 1);

        for (int size = 1; size <= 4; size++) {
            for (int i = 0; i < size; i++) {
                CobolDebugger binary = withItem(BINARY, size);
                binary.step(1, 0, power(256, i));
                binary.stop(2, 0, 0);
                due("a change: of one of " + size + " bytes, " + i + " ahead of the last", binary.run(1), 1);
            }
        }

        CobolDebugger performs = program(0, 1);
        performs.item(DIGITS, 1);
        performs.item(DIGITS, 1);
        performs.step(1, performing(1), 5);
        performs.step(2, -1, 5);
        performs.stop(2, 0, 0);
        performs.stop(2, 1, 0);
        due("a change: performing is none, nor is nothing", performs.run(2), 0);

        CobolDebugger by = program(0, 0);
        by.item(DIGITS, 1);
        by.stop(2, 0, 0);
        by.change(0, 1);
        by.poke(0, 0, (byte) 50);
        due("a change: by hand is none", by.run(2), 0);
        due("a change: by going back neither", by.back(2), 1);
        due("a change: nor behind that", by.run(2), 0);
    }

    private static int reached(int usage, int size, long says, int condition) {
        CobolDebugger x = changed(usage, size, says);
        x.stop(3, 0, condition);
        return x.run(1);
    }

    private static void stopBehindACondition() {
        due("condition: one less", reached(DIGITS, 2, 49, 50), 0);
        due("condition: the same", reached(DIGITS, 2, 50, 50), 1);
        due("condition: one more", reached(DIGITS, 2, 51, 50), 1);
        due("condition: negative, one less", reached(DIGITS, 2, -51, -50), 0);
        due("condition: negative, the same", reached(DIGITS, 2, -50, -50), 1);
        due("condition: zero, one less", reached(BINARY, 1, -1, 0), 0);
        due("condition: zero", reached(BINARY, 1, 0, 0), 1);
        due("condition: the most, one less", reached(BINARY, 4, MAX - 1, MAX), 0);
        due("condition: the most", reached(BINARY, 4, MAX, MAX), 1);
        due("condition: the least", reached(BINARY, 4, MIN, MIN), 1);
        due("condition: the least, one more", reached(BINARY, 4, MIN, MIN + 1), 0);
        due("condition: the most of nine digits", reached(DIGITS, 9, 999999999, 999999999), 1);
        due("condition: a constant", reached(CONSTANT, 1, 0, 0), 1);
        due("condition: more than a constant", reached(CONSTANT, 1, 0, 1), 0);

        CobolDebugger bad = poked(DIGITS, 1, 0, 47);
        bad.stop(3, 0, MIN);
        due("condition: not when it is bad", bad.run(1), 0);
        CobolDebugger end = withItem(DIGITS, 1);
        end.stop(3, 0, 0);
        due("condition: not behind no statement", end.run(0), 0);
        due("condition: behind the last one", end.run(1), 1);
        due("condition: not at the end", end.run(1), 0);
    }

    private static void stopForATaskStopsNothing() {
        CobolDebugger x = program(0, 1, 2);
        x.item(DIGITS, 1);
        x.step(1, 0, 1);
        x.stop(4, 0, 0);
        x.stop(4, 1, 0);
        x.stop(4, 20, 0);
        due("for a task: nothing stops", x.run(9), 0);
        due("for a task: it went to the end", x.told(3), 0);
    }

    private static void stopOrder() {
        CobolDebugger x = program(0, 1, 1);
        x.item(DIGITS, 1);
        x.step(1, 0, 1);
        x.stop(0, 1, 0);
        x.stop(1, 20, 0);
        x.stop(3, 0, 1);
        x.stop(2, 0, 0);
        due("order: those behind first, of them the least", x.run(9), 3);
        due("order: one was run", x.told(3), 2);
        x.back(1);
        x.step(1, -1, 0);
        due("order: then those ahead, of them the least", x.run(9), 1);
        due("order: one was run again", x.told(3), 2);

        CobolDebugger y = program(0, 1);
        y.item(DIGITS, 1);
        y.step(1, 0, 1);
        y.stop(2, 0, 0);
        y.stop(3, 0, 1);
        due("order: a change ahead of a condition", y.run(9), 1);

        CobolDebugger z = program(0, 1);
        z.stop(1, 20, 0);
        z.stop(0, 1, 0);
        due("order: a line ahead of a paragraph", z.run(9), 1);
    }

    // Promise 6

    private static void runFrom0To200() {
        CobolDebugger x = round();
        due("run 0", x.run(0), 0);
        due("run 0: nothing", x.told(4), 0);
        due("run 0: stands at the first", x.told(3), 1);
        due("run 1", x.run(1), 0);
        due("run 1: one", x.told(4), 1);
        due("run 199", x.run(199), 0);
        due("run 199: 200 in all", x.count(0), 200);
        due("run 200", x.run(200), 0);
        due("run 200: 400 in all", x.count(0), 400);
        due("run 201", x.run(201), -4);
        due("run 201: still 400", x.count(0), 400);
    }

    private static void runRefusals() {
        refused("run -1", -4, y -> y.run(-1));
        refused("run 201", -4, y -> y.run(201));
        refused("the least run", -4, y -> y.run(MIN));
        refused("the most run", -4, y -> y.run(MAX));
        due("run 201 of an empty program", new CobolDebugger().run(201), -4);
        due("run -1 of an empty program", new CobolDebugger().run(-1), -4);
        CobolDebugger end = program(0);
        end.run(1);
        due("run 201 at the end", end.run(201), -4);
    }

    private static void runToTheEnd() {
        CobolDebugger x = fullOfStatements();
        due("to the end: 0", x.run(100), 0);
        due("to the end: stands there", x.told(3), 0);
        due("to the end: 100 were run", x.told(4), 100);

        CobolDebugger short1 = fullOfStatements();
        due("one short of the end: 0", short1.run(99), 0);
        due("one short of the end: stands at the last", short1.told(3), 100);

        CobolDebugger stopped = added(DIGITS, 1, 0, 0);
        stopped.back(1);
        stopped.step(1, 0, 1);
        stopped.stop(2, 0, 0);
        due("a stop behind the last one", stopped.run(200), 1);
        due("a stop behind the last one: the end", stopped.told(3), 0);
        due("at the end: no stop", stopped.run(200), 0);
    }

    // Promises 7 and 8

    private static void showBoundaries() {
        refused("show -1", NO_ITEM, y -> y.show(-1));
        refused("show 4 of 4", NO_ITEM, y -> y.show(4));
        refused("show the least", NO_ITEM, y -> y.show(MIN));
        refused("show the most", NO_ITEM, y -> y.show(MAX));
        refused("show a bad one", BAD, y -> y.show(3));
        refused("show the first", "7", y -> y.show(0));
        CobolDebugger full = fullOfItems(BINARY, 4);
        dueText("show the last of the full one", shown(full, 29), "0");
        dueText("show behind it", shown(full, 30), NO_ITEM);
    }

    private static void changeBoundaries() {
        refused("change -1", -2, y -> y.change(-1, 5));
        refused("change 4 of 4", -2, y -> y.change(4, 5));
        refused("change the least", -2, y -> y.change(MIN, 5));
        refused("change the most", -2, y -> y.change(MAX, 5));
        refused("change a constant", 0, y -> y.change(2, 5));
        refused("change a constant to what it says", 0, y -> y.change(2, 0));
        refused("change to what it says", 1, y -> y.change(0, 7));
        CobolDebugger full = fullOfItems(BINARY, 4);
        due("change the last of the full one", full.change(29, -1), 1);
        due("change behind it", full.change(30, -1), -2);
        dueText("change: the last one", bytesOf(full, 29, 4), "-1 -1 -1 -1");
        dueText("change: not the one beside it", bytesOf(full, 28, 4), "0 0 0 0");
        due("change: is not kept", full.told(4), 0);
    }

    // Promise 9, and what is kept

    private static void keptAtMost300() {
        CobolDebugger x = round();
        runInAll(x, 299);
        due("kept: 299", x.told(4), 299);
        due("kept: 300 are not", x.back(300), -4);
        x.run(1);
        due("kept: 300", x.told(4), 300);
        due("kept: 301 are not", x.back(301), -4);
        due("kept: all back", x.back(300), 1);
        due("kept: none", x.told(4), 0);
        due("kept: none is counted", x.count(0), 0);
        dueText("kept: says as at first", shown(x, 0), "0");

        CobolDebugger y = round();
        runInAll(y, 301);
        due("kept: of 301, 300", y.told(4), 300);
        due("kept: 301 are not kept", y.back(301), -4);
        due("kept: nothing was taken back", y.count(0), 301);
        due("kept: 300 back, to the second one", y.back(300), 2);
        due("kept: the first one is counted still", y.count(0), 1);
        dueText("kept: and says so", shown(y, 0), "1");
        due("kept: it cannot go back", y.back(1), -4);
        due("kept: but goes on", y.run(1), 0);
        due("kept: one again", y.told(4), 1);
    }

    /** What the item of round() says behind so many statements: each hundredth only performs. */
    private static int saysBehind(int statements) {
        return statements - statements / 100;
    }

    private static void keptRoundTheEnd() {
        CobolDebugger x = round();
        runInAll(x, 1000);
        due("round: 300 are kept", x.told(4), 300);
        for (int left = 999; left >= 940; left--) {
            due("round: back behind " + left, x.back(1), left % 100 + 1);
            dueText("round: says behind " + left, shown(x, 0), Integer.toString(saysBehind(left)));
            due("round: performings behind " + left, x.told(6), left / 100);
        }
        due("round: 240 are left", x.told(4), 240);
        x.run(150);
        due("round: 300 are kept again", x.told(4), 300);
        due("round: 301 are not", x.back(301), -4);
        due("round: 300 back", x.back(300), 91);
        dueText("round: says as then", shown(x, 0), Integer.toString(saysBehind(790)));
        due("round: as many performings as then", x.told(6), 7);
        due("round: as many counted as then", x.count(0), 790);
        runInAll(x, 210);
        dueText("round: the same way again", shown(x, 0), Integer.toString(saysBehind(1000)));
    }

    private static void backFrom0ToKept() {
        CobolDebugger x = program(0, 1, 2);
        due("back 0 of none", x.back(0), 1);
        x.run(2);
        due("back 0", x.back(0), 3);
        due("back 0: nothing", x.told(4), 2);
        due("back 1", x.back(1), 2);
        due("back 1: one is left", x.told(4), 1);
        due("back 2 of one", x.back(2), -4);
        due("back 1 of one", x.back(1), 1);
        due("back 1 of none", x.back(1), -4);

        CobolDebugger end = program(0, 1);
        end.run(5);
        due("back 0 at the end", end.back(0), 0);
        due("back from the end", end.back(2), 1);

        CobolDebugger latest = program(0, 0);
        latest.item(DIGITS, 1);
        latest.step(1, 0, 1);
        latest.step(2, 0, 1);
        latest.run(2);
        latest.back(2);
        dueText("back: the latest first, so the oldest bytes stay", shown(latest, 0), "0");
    }

    private static void backRefusals() {
        refused("back -1", -4, y -> y.back(-1));
        refused("back 5 of 4", -4, y -> y.back(5));
        refused("the least back", -4, y -> y.back(MIN));
        refused("the most back", -4, y -> y.back(MAX));
    }

    private static void backThroughALeaving() {
        CobolDebugger x = deep(20);
        x.run(3);
        due("leaving: 19 are open", x.told(6), 19);
        String behind = state(x);
        due("leaving: back", x.back(1), 3);
        due("leaving: 20 are open", x.told(6), 20);
        x.run(1);
        dueText("leaving: and left again", state(x), behind);

        CobolDebugger all = program(0);
        all.step(1, performing(0), 0);
        all.run(21);
        due("leaving all: none is open", all.told(6), 0);
        due("leaving all: back", all.back(1), 1);
        due("leaving all: twenty are open", all.told(6), 20);
        due("leaving all: the newest", all.performed(0), 1);
        due("leaving all: the oldest", all.performed(19), 1);
        due("leaving all: no more", all.performed(20), 0);
        due("leaving all: back to the first", all.back(20), 1);
        due("leaving all: none is open there", all.told(6), 0);

        leavingsRoundTheEnd();
    }

    /** More leavings than are kept: paragraph 1 performs the short 2 and 3 by turns, and then itself. */
    private static void leavingsRoundTheEnd() {
        int[] paragraphs = new int[40];
        for (int i = 0; i < 40; i++) {
            paragraphs[i] = i < 38 ? 1 : i - 36;
        }
        CobolDebugger x = program(paragraphs);
        for (int i = 1; i < 38; i++) {
            x.step(i, performing(2 + i % 2), 0);
        }
        x.step(38, performing(1), 0);
        runInAll(x, 800);
        due("many leavings: 300 are kept", x.told(4), 300);
        for (int left = 799; left >= 710; left--) {
            int at = left % 75;
            int statement = at % 2 == 0 ? at / 2 + 1 : 39 + (at / 2 + 1) % 2;
            due("many leavings: back behind " + left, x.back(1), statement);
            due("many leavings: performed behind " + left, x.performed(0), at % 2 == 0 ? 38 : at / 2 + 1);
            due("many leavings: open behind " + left, x.told(6), left / 75 + at % 2);
        }
    }

    private static void backLeavesFaults() {
        CobolDebugger x = program(0, 0);
        x.step(1, performing(5), 0);
        x.run(1);
        due("faults: one", x.told(5), 1);
        x.back(1);
        due("faults: taken back ones too", x.told(5), 1);
        x.run(1);
        due("faults: two in all", x.told(5), 2);
        x.back(1);
        x.step(1, -1, 0);
        x.run(1);
        due("faults: no third one", x.told(5), 2);
    }

    // Promises 10 to 16

    private static void performedFrom0() {
        CobolDebugger x = program(0, 1, 2, 2);
        x.step(1, performing(1), 0);
        x.step(2, performing(2), 0);
        due("performed: none is open", x.performed(0), 0);
        x.run(2);
        due("performed: the newest", x.performed(0), 2);
        due("performed: the oldest", x.performed(1), 1);
        due("performed: one more", x.performed(2), 0);
        due("performed: -1", x.performed(-1), 0);
        due("performed: the least", x.performed(MIN), 0);
        due("performed: the most", x.performed(MAX), 0);
        due("performed: 20", x.performed(20), 0);

        CobolDebugger full = deep(19);
        due("performed: the 20th of 19", full.performed(19), 0);
        full.run(1);
        due("performed: the 20th of 20", full.performed(19), 1);
        due("performed: the 21st", full.performed(20), 0);
        due("performed: -1 of 20", full.performed(-1), 0);
        full.back(5);
        due("performed: -1 behind a back, the one that was taken back", full.performed(-1), 0);
    }

    private static void countFrom0To19() {
        CobolDebugger x = program(0, 19, 19);
        x.run(3);
        due("count 0", x.count(0), 1);
        due("count 19", x.count(19), 2);
        due("count of one that is not there", x.count(1), 0);
        refused("count -1", -4, y -> y.count(-1));
        refused("count 20", -4, y -> y.count(20));
        refused("the least count", -4, y -> y.count(MIN));
        refused("the most count", -4, y -> y.count(MAX));

        CobolDebugger many = round();
        runInAll(many, 1000);
        due("count: those that are kept no more too", many.count(0), 1000);
    }

    private static void caughtBoundaries() {
        CobolDebugger x = program(0);
        x.item(DIGITS, 1);
        for (int kind = 0; kind <= 3; kind++) {
            x.stop(kind, 0, 0);
        }
        due("caught: only kind 4", x.caught(0, 0), 0);
        x.stop(4, 0, 0);
        x.stop(4, 0, 0);
        x.stop(4, MAX, MIN);
        x.stop(4, MIN, MAX);
        x.stop(4, -1, -1);
        due("caught: the least of two", x.caught(0, 0), 5);
        due("caught: the most code", x.caught(MAX, MIN), 7);
        due("caught: the least code", x.caught(MIN, MAX), 8);
        due("caught: -1", x.caught(-1, -1), 9);
        due("caught: one more code", x.caught(1, 0), 0);
        due("caught: one more terminal", x.caught(0, 1), 0);
        due("caught: one less code", x.caught(-1, 0), 0);
        due("caught: one less terminal", x.caught(0, -1), 0);
        CobolDebugger only = new CobolDebugger();
        only.stop(4, 3, 4);
        due("caught: the first stop of all", only.caught(3, 4), 1);
        for (int i = 10; i <= 20; i++) {
            x.stop(4, 77, i);
        }
        due("caught: the last of the full one", x.caught(77, 20), 20);
        x.stop(4, 77, 21);
        due("caught: not a refused one", x.caught(77, 21), 0);
    }

    private static void nearBoundaries() {
        CobolDebugger x = new CobolDebugger();
        due("near: no items", x.near(0), -1);
        x.item(DIGITS, 1);
        int[] names = {MIN, -2, -1, 0, 1, 2, MAX};
        for (int name : names) {
            due("near: one item, " + name, x.near(name), 0);
        }
        x.item(DIGITS, 1);
        due("near: two items, 0", x.near(0), 0);
        due("near: two items, 1", x.near(1), 1);
        due("near: two items, 2", x.near(2), 1);

        CobolDebugger full = fullOfItems(DIGITS, 1);
        for (int name = 0; name < 30; name++) {
            due("near: itself", full.near(name), name);
        }
        due("near: 30", full.near(30), 29);
        due("near: -1", full.near(-1), 0);
        due("near: the most", full.near(MAX), 29);
        due("near: the least", full.near(MIN), 0);
    }

    private static void octetBoundaries() {
        int[] none = {MIN, -1, 4, MAX};
        for (int item : none) {
            refused("octet: item " + item, NO_BYTE, y -> y.octet(item, 0));
        }
        int[] sizes = {2, 2, 2, 1};
        for (int item = 0; item < 4; item++) {
            int of = item;
            int size = sizes[item];
            refused("octet: the least byte of " + of, NO_BYTE, y -> y.octet(of, MIN));
            refused("octet: byte -1 of " + of, NO_BYTE, y -> y.octet(of, -1));
            refused("octet: behind the last byte of " + of, NO_BYTE, y -> y.octet(of, size));
            refused("octet: byte 9 of " + of, NO_BYTE, y -> y.octet(of, 9));
            refused("octet: the most byte of " + of, NO_BYTE, y -> y.octet(of, MAX));
        }
        refused("octet: the first byte", "48", y -> y.octet(0, 0));
        refused("octet: the last byte", "55", y -> y.octet(0, 1));
        refused("octet: of a bad one", "1", y -> y.octet(3, 0));
        refused("octet: both wrong", NO_BYTE, y -> y.octet(-1, -1));

        CobolDebugger full = fullOfItems(CONSTANT, 9);
        dueText("octet: the last of all", byteOf(full, 29, 8), "48");
        dueText("octet: behind it", byteOf(full, 29, 9), NO_BYTE);
        dueText("octet: item 30", byteOf(full, 30, 0), NO_BYTE);
        dueText("octet: the first of all", byteOf(full, 0, 0), "48");
        dueText("octet: ahead of it", byteOf(full, 0, -1), NO_BYTE);
    }

    private static void pokeBoundaries() {
        byte b = 53;
        int[] none = {MIN, -1, 4, MAX};
        for (int item : none) {
            refused("poke: item " + item, -2, y -> y.poke(item, 0, b));
            refused("poke: item " + item + " and byte -1", -2, y -> y.poke(item, -1, b));
        }
        int[] wrong = {MIN, -1, 2, 9, MAX};
        for (int i : wrong) {
            refused("poke: byte " + i + " of digits", -4, y -> y.poke(0, i, b));
            refused("poke: byte " + i + " of binary", -4, y -> y.poke(1, i, b));
            refused("poke: byte " + i + " of a constant", 0, y -> y.poke(2, i, b));
        }
        refused("poke: byte 1 of one digit", -4, y -> y.poke(3, 1, b));
        refused("poke: the first byte of a constant", 0, y -> y.poke(2, 0, b));
        refused("poke: the last byte of a constant", 0, y -> y.poke(2, 1, b));

        CobolDebugger full = fullOfItems(DIGITS, 9);
        due("poke: the last of all", full.poke(29, 8, b), 1);
        due("poke: behind it", full.poke(29, 9, b), -4);
        due("poke: item 30", full.poke(30, 0, b), -2);
        due("poke: behind another's last", full.poke(0, 9, b), -4);
        dueText("poke: not the first of the next", byteOf(full, 1, 0), "48");
        due("poke: the first of another", full.poke(1, 0, b), 1);
        dueText("poke: the last of all is it", shown(full, 29), "5");
        dueText("poke: the first of another too", shown(full, 1), "500000000");
        dueText("poke: the ones beside them are not", shown(full, 28) + shown(full, 0) + shown(full, 2), "000");
        due("poke: is not kept", full.told(4), 0);
    }

    private static void pokeBytes() {
        for (int b = -128; b <= 127; b++) {
            CobolDebugger x = withItem(BINARY, 2);
            due("poke byte " + b, x.poke(0, 0, (byte) b), 1);
            dueText("poke byte " + b + ": it is there", bytesOf(x, 0, 2), b + " 0");
            dueText("poke byte " + b + ": says", shown(x, 0), Integer.toString(256 * b));
            CobolDebugger low = withItem(BINARY, 2);
            low.poke(0, 1, (byte) b);
            dueText("poke byte " + b + ": says as the low one", shown(low, 0), Integer.toString(b & 255));
        }
    }

    private static void toldFrom0To6() {
        int[] others = {MIN, -2, -1, 7, 8, MAX};
        for (int what : others) {
            due("told " + what + " of an empty one", new CobolDebugger().told(what), -1);
            refused("told " + what, -1, y -> y.told(what));
        }
        CobolDebugger x = underWay();
        int[] all = {6, 4, 3, 5, 4, 1, 2};
        for (int what = 0; what <= 6; what++) {
            due("told " + what, x.told(what), all[what]);
        }
    }
}
