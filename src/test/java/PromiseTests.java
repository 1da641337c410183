/** For each promise of the document: ordinary inputs, the edges that it names, and wrong inputs. */
public final class PromiseTests extends Checks {
    public static void main(String[] args) {
        newObject();
        objectsSideBySide();
        statement();
        item();
        step();
        does();
        performs();
        stop();
        stopsAhead();
        stopsBehind();
        run();
        show();
        change();
        back();
        backThroughPerformings();
        keptRows();
        performed();
        count();
        caught();
        near();
        octet();
        poke();
        told();
        exampleOfTheReadme();
        end();
    }

    private static void newObject() {
        CobolDebugger x = new CobolDebugger();
        for (int what = 0; what <= 6; what++) {
            due("1: told(" + what + ") of a new object", x.told(what), 0);
        }
        due("1: NONE", CobolDebugger.NONE, -1);
    }

    private static void objectsSideBySide() {
        CobolDebugger x = program(0, 1, 0);
        CobolDebugger y = new CobolDebugger();
        x.item(0, 3);
        x.stop(4, 1, 2);
        x.step(1, 0, -5);
        x.step(2, performing(7), 0);
        x.step(3, performing(1), 0);
        x.run(3);
        for (int what = 0; what <= 6; what++) {
            due("1: told(" + what + ") beside another object", y.told(what), 0);
        }
        due("1: count beside another object", y.count(0), 0);
        due("1: caught beside another object", y.caught(1, 2), 0);
        y.statement(3, 9);
        y.item(1, 1);
        y.change(0, 9);
        y.run(1);
        dueText("1: the other object's item", bytesOf(x, 0, 3), "48 48 117");
        due("1: the other object's paragraph", x.count(3), 0);
        due("1: the other object goes back by its own rows", x.back(3), 1);
        dueText("1: to its own bytes", bytesOf(x, 0, 3), "48 48 48");
        due("1: this one keeps its row", y.told(4), 1);
        dueText("1: and its bytes", bytesOf(y, 0, 1), "9");
    }

    private static void statement() {
        CobolDebugger x = new CobolDebugger();
        due("2: paragraph -1", x.statement(-1, 1), -4);
        due("2: paragraph 20", x.statement(20, 1), -4);
        due("2: line 0", x.statement(0, 0), -4);
        due("2: line 10000", x.statement(0, 10000), -4);
        due("2: least and most of all", x.statement(MIN, MAX), -4);
        due("2: none made so far", x.told(0), 0);
        due("2: stands nowhere", x.told(3), 0);
        for (int i = 1; i <= 100; i++) {
            due("2: number", x.statement(i % 20, i == 1 ? 1 : 9999), i);
            due("2: stands at the first one", x.told(3), 1);
        }
        due("2: the 101st", x.statement(19, 9999), -1);
        due("2: the 101st, wrong", x.statement(20, 1), -4);
        due("2: 100 are there", x.told(0), 100);

        CobolDebugger e = program(0);
        e.run(1);
        due("2: at the end", e.told(3), 0);
        due("2: one more at the end", e.statement(0, 5), 2);
        due("2: it stays at the end", e.told(3), 0);
        e.run(5);
        due("2: none is run from the end", e.told(4), 1);

        CobolDebugger n = new CobolDebugger();
        n.run(5);
        n.statement(0, 1);
        due("2: a run of nothing leaves it at the first one", n.told(3), 1);
    }

    private static void item() {
        CobolDebugger x = new CobolDebugger();
        int[][] refused = {{-1, 1}, {3, 1}, {0, 0}, {0, 10}, {1, 0}, {1, 5}, {2, 0}, {2, 10}, {0, -1}, {MIN, MIN}, {MAX, MAX}};
        for (int[] r : refused) {
            due("3: item " + r[0] + ", " + r[1], x.item(r[0], r[1]), -4);
        }
        due("3: no item so far", x.told(1), 0);
        int[][] taken = {{0, 1}, {0, 9}, {1, 1}, {1, 4}, {2, 1}, {2, 9}};
        for (int i = 0; i < 30; i++) {
            due("3: number", x.item(taken[i % 6][0], taken[i % 6][1]), i);
            dueText("3: says at first", shown(x, i), "0");
        }
        due("3: the 31st", x.item(0, 1), -1);
        due("3: the 31st, wrong", x.item(3, 1), -4);
        dueText("3: digits at first", bytesOf(x, 1, 9), "48 48 48 48 48 48 48 48 48");
        dueText("3: binary at first", bytesOf(x, 3, 4), "0 0 0 0");
        dueText("3: a constant at first", bytesOf(x, 4, 1), "48");
    }

    private static void step() {
        CobolDebugger x = program(0);
        due("4: no item", x.step(1, 0, 1), -2);
        x.item(0, 2);
        due("4: statement 0", x.step(0, 0, 1), -2);
        due("4: statement 2", x.step(2, 0, 1), -2);
        due("4: statement -1", x.step(-1, -1, 1), -2);
        due("4: no statement and no paragraph", x.step(2, -22, 1), -2);
        due("4: item 1", x.step(1, 1, 1), -2);
        due("4: the most item", x.step(1, MAX, 1), -2);
        due("4: paragraph 20", x.step(1, -22, 1), -4);
        due("4: the least item", x.step(1, MIN, 1), -4);
        due("4: paragraph 19", x.step(1, -21, 1), 1);
        due("4: paragraph 0", x.step(1, -2, 1), 1);
        due("4: nothing", x.step(1, -1, 1), 1);
        due("4: an item", x.step(1, 0, 7), 1);
        due("4: refused, so as before", x.step(1, 1, 9), -2);
        x.run(1);
        dueText("4: the last step counts", shown(x, 0), "7");
    }

    /** An item of this usage and size that says from gets v more. */
    private static CobolDebugger added(int usage, int size, long from, long v) {
        CobolDebugger x = program(0);
        x.item(usage, size);
        x.change(0, from);
        x.step(1, 0, v);
        x.run(1);
        return x;
    }

    private static void does() {
        dueText("does: 95 + 7 of two digits", shown(added(0, 2, 95, 7), 0), "2");
        dueText("does: -95 - 7 of two digits", shown(added(0, 2, -95, -7), 0), "-2");
        dueText("does: 5 - 7", shown(added(0, 2, 5, -7), 0), "-2");
        dueText("does: -5 - 95 is zero without a sign", bytesOf(added(0, 2, -5, -95), 0, 2), "48 48");
        dueText("does: -5 + 5", bytesOf(added(0, 2, -5, 5), 0, 2), "48 48");
        dueText("does: a negative one", bytesOf(added(0, 3, 0, -120), 0, 3), "49 50 112");
        dueText("does: the most long", shown(added(0, 9, 0, Long.MAX_VALUE), 0), "854775807");
        dueText("does: the least long", shown(added(0, 9, 0, Long.MIN_VALUE), 0), "-854775808");
        dueText("does: beyond the most long", shown(added(0, 3, 5, Long.MAX_VALUE), 0), "812");
        dueText("does: beyond the least long", shown(added(0, 3, -5, Long.MIN_VALUE), 0), "-813");
        dueText("does: the least long and a positive one", shown(added(0, 3, 5, Long.MIN_VALUE), 0), "-803");
        dueText("does: 127 + 1 of a byte", shown(added(1, 1, 127, 1), 0), "-128");
        dueText("does: -1 + 1 of four bytes", shown(added(1, 4, -1, 1), 0), "0");
        dueText("does: two bytes, the highest first", bytesOf(added(1, 2, 0, 258), 0, 2), "1 2");
        dueText("does: three bytes", shown(added(1, 3, 0, 0x1234567), 0), Integer.toString(0x234567));
        dueText("does: three bytes below zero", shown(added(1, 3, 0, -2), 0), "-2");
        dueText("does: four bytes and the most long", shown(added(1, 4, 7, Long.MAX_VALUE), 0), "6");

        CobolDebugger c = added(2, 2, 0, 5);
        dueText("does: a constant stays", shown(c, 0), "0");
        due("does: a constant is no fault", c.told(5), 0);

        CobolDebugger b = program(0, 0);
        b.item(0, 2);
        b.poke(0, 0, (byte) 112);
        b.step(1, 0, 5);
        b.step(2, 0, 5);
        b.run(1);
        dueText("does: a bad item stays", bytesOf(b, 0, 2), "112 48");
        due("does: a bad item is a fault", b.told(5), 1);
        due("does: it goes on behind a fault", b.told(3), 2);
        b.run(1);
        due("does: a second fault", b.told(5), 2);

        CobolDebugger n = program(0, 0);
        n.run(1);
        due("does: nothing at first", n.told(5), 0);
        due("does: and goes on", n.told(3), 2);
    }

    private static void performs() {
        CobolDebugger x = program(0, 0, 1, 1, 2);
        x.step(1, performing(2), 0);
        dueText("performs: there and back", walk(x, 10), "5 2 3 4 5 0");

        CobolDebugger two = program(0, 1, 2, 1, 1);
        two.step(1, performing(1), 0);
        dueText("performs: the first run of a number", walk(two, 10), "2 2 3 4 5 0");

        CobolDebugger nested = program(0, 0, 1, 1, 2);
        nested.step(1, performing(1), 0);
        nested.step(4, performing(2), 0);
        dueText("performs: two ends at once", walk(nested, 6), "3 4 5 2 3 4");

        CobolDebugger newest = program(0, 1, 2);
        newest.step(1, performing(1), 0);
        newest.step(2, performing(2), 0);
        newest.step(3, -1, 0);
        dueText("performs: and so on", walk(newest, 3), "2 3 2");
        due("performs: all are closed", newest.told(6), 0);

        CobolDebugger hidden = program(0, 1, 1, 2);
        hidden.step(1, performing(1), 0);
        hidden.step(2, performing(0), 0);
        hidden.step(3, -1, 0);
        hidden.run(2);
        hidden.step(1, -1, 0);
        dueText("performs: the newest one's end is here", walk(hidden, 2), "3 2");

        CobolDebugger over = program(0, 1);
        over.step(1, performing(1), 0);
        over.step(2, performing(1), 0);
        over.run(1);
        over.statement(1, 30);
        over.run(1);
        over.step(2, -1, 0);
        dueText("performs: an older one's end does not count", walk(over, 2), "3 2");
        due("performs: both are closed", over.told(6), 0);

        CobolDebugger deep = program(0);
        deep.step(1, performing(0), 0);
        deep.run(20);
        due("performs: twenty within one another", deep.told(6), 20);
        due("performs: no fault yet", deep.told(5), 0);
        deep.run(1);
        due("performs: the 21st is a fault", deep.told(5), 1);
        due("performs: it ends all of them", deep.told(6), 0);
        due("performs: and the program", deep.told(3), 0);

        CobolDebugger none = program(0, 0);
        none.step(1, performing(7), 0);
        dueText("performs: a paragraph that isn't there", walk(none, 5), "2 0");
        due("performs: that is a fault", none.told(5), 1);

        CobolDebugger grown = program(1, 0);
        grown.step(2, performing(2), 0);
        grown.statement(2, 7);
        grown.run(2);
        grown.statement(2, 8);
        dueText("performs: the last one as it was then", walk(grown, 4), "3 4 0");
    }

    private static void stop() {
        CobolDebugger x = new CobolDebugger();
        due("5: kind -1", x.stop(-1, 0, 0), -4);
        due("5: kind 5", x.stop(5, 0, 0), -4);
        due("5: changed, no item", x.stop(2, 0, 0), -2);
        due("5: condition, no item", x.stop(3, 0, 0), -2);
        x.item(0, 1);
        due("5: changed, item -1", x.stop(2, -1, 0), -2);
        due("5: condition, item 1", x.stop(3, 1, 0), -2);
        due("5: none so far", x.told(2), 0);
        due("5: any paragraph", x.stop(0, MIN, 0), 1);
        due("5: any line", x.stop(1, MAX, 0), 2);
        due("5: changed", x.stop(2, 0, 0), 3);
        due("5: condition", x.stop(3, 0, MIN), 4);
        due("5: task", x.stop(4, MIN, MAX), 5);
        for (int i = 6; i <= 20; i++) {
            due("5: number", x.stop(0, 0, 0), i);
        }
        due("5: the 21st", x.stop(0, 0, 0), -1);
        due("5: the 21st, wrong kind", x.stop(5, 0, 0), -4);
        due("5: the 21st, no item", x.stop(2, 1, 0), -2);
    }

    private static void stopsAhead() {
        CobolDebugger x = program(0, 1, 1, 2, 1);
        x.stop(0, 1, 0);
        x.stop(1, 40, 0);
        x.stop(0, -1, 0);
        due("5: ahead of paragraph 1", x.run(10), 1);
        due("5: stands there", x.told(3), 2);
        due("5: ahead of line 40", x.run(10), 2);
        due("5: stands at it", x.told(3), 4);
        due("5: a second run of a number is no paragraph", x.run(10), 0);
        due("5: to the end", x.told(3), 0);

        CobolDebugger first = program(0);
        first.stop(0, 0, 0);
        due("5: not ahead of a run's first one", first.run(3), 0);

        CobolDebugger last = program(0, 1);
        last.stop(0, 1, 0);
        due("5: not ahead of one that the run has no room for", last.run(1), 0);
        due("5: it stands there all the same", last.told(3), 2);

        CobolDebugger least = program(0, 1);
        least.stop(4, 20, 0);
        least.stop(1, 20, 0);
        least.stop(0, 1, 0);
        due("5: the least of those ahead", least.run(5), 2);

        CobolDebugger loop = program(0);
        loop.step(1, performing(0), 0);
        loop.stop(0, 0, 0);
        due("5: ahead of a performed paragraph", loop.run(5), 1);
        due("5: one statement was run", loop.told(4), 1);
    }

    private static void stopsBehind() {
        CobolDebugger x = program(0, 1, 1);
        x.item(0, 1);
        x.item(0, 1);
        x.step(1, 0, 1);
        x.step(2, 1, 10);
        x.step(3, 1, 1);
        x.stop(0, 1, 0);
        x.stop(2, 0, 0);
        x.stop(2, 1, 0);
        due("5: those behind first", x.run(9), 2);
        due("5: bytes that stay are no change", x.run(9), 3);
        due("5: it went to the end", x.told(3), 0);

        CobolDebugger sign = program(0, 0);
        sign.item(0, 1);
        sign.poke(0, 0, (byte) 112);
        sign.step(1, 0, 0);
        sign.stop(2, 0, 0);
        due("5: other bytes, the same value", sign.run(9), 1);
        dueText("5: zero has lost its sign", bytesOf(sign, 0, 1), "48");

        CobolDebugger c = program(0, 0, 0);
        c.item(0, 2);
        c.step(2, 0, 5);
        c.stop(3, 0, 5);
        due("5: condition and no more", c.run(9), 1);
        due("5: behind the second one", c.told(3), 3);
        due("5: and behind each", c.run(9), 1);
        due("5: of all that follow", c.told(3), 0);

        CobolDebugger bad = program(0, 0);
        bad.item(0, 2);
        bad.stop(3, 0, MIN);
        bad.poke(0, 0, (byte) 0);
        due("5: not when it is bad", bad.run(9), 0);

        CobolDebugger poked = program(0, 0);
        poked.item(0, 2);
        poked.stop(2, 0, 0);
        poked.change(0, 7);
        due("5: a change by hand is no statement's", poked.run(9), 0);

        CobolDebugger task = program(0, 0);
        task.stop(4, 0, 0);
        due("5: a task's stops nothing", task.run(9), 0);
    }

    private static void run() {
        CobolDebugger x = program(new int[100]);
        due("6: -1", x.run(-1), -4);
        due("6: 201", x.run(201), -4);
        due("6: the least", x.run(MIN), -4);
        due("6: the most", x.run(MAX), -4);
        due("6: none was run", x.told(4), 0);
        due("6: 0", x.run(0), 0);
        due("6: none was run by 0", x.told(3), 1);
        due("6: 3", x.run(3), 0);
        due("6: stands at the 4th", x.told(3), 4);
        due("6: 200", x.run(200), 0);
        due("6: stands at the end", x.told(3), 0);
        due("6: each was run once", x.told(4), 100);
        due("6: at the end", x.run(200), 0);
        due("6: a new object", new CobolDebugger().run(200), 0);
    }

    private static void show() {
        CobolDebugger x = new CobolDebugger();
        dueText("7: no item", shown(x, 0), "IllegalArgumentException");
        x.item(0, 2);
        x.item(1, 2);
        dueText("7: item -1", shown(x, -1), "IllegalArgumentException");
        dueText("7: item 2", shown(x, 2), "IllegalArgumentException");
        dueText("7: the most", shown(x, MAX), "IllegalArgumentException");
        int[][] digits = {{47, 48}, {58, 48}, {112, 48}, {48, 47}, {48, 58}, {48, 111}, {48, 122}, {-16, 48}, {48, -7}};
        for (int[] d : digits) {
            x.poke(0, 0, (byte) d[0]);
            x.poke(0, 1, (byte) d[1]);
            dueText("7: bad bytes " + d[0] + " " + d[1], shown(x, 0), "IllegalStateException");
        }
        x.poke(0, 0, (byte) 57);
        x.poke(0, 1, (byte) 121);
        dueText("7: a negative one", shown(x, 0), "-99");
        x.poke(0, 0, (byte) 48);
        x.poke(0, 1, (byte) 112);
        dueText("7: zero with a sign", shown(x, 0), "0");
        x.poke(1, 0, (byte) -128);
        x.poke(1, 1, (byte) -1);
        dueText("7: binary is never bad", shown(x, 1), "-32513");
    }

    private static void change() {
        CobolDebugger x = new CobolDebugger();
        due("8: no item", x.change(0, 1), -2);
        x.item(0, 3);
        x.item(1, 2);
        x.item(2, 3);
        due("8: item -1", x.change(-1, 1), -2);
        due("8: item 3", x.change(3, 1), -2);
        due("8: a constant", x.change(2, 1), 0);
        dueText("8: a constant stays", shown(x, 2), "0");
        due("8: digits", x.change(0, -12345), 1);
        dueText("8: the lowest ones with the sign", shown(x, 0), "-345");
        due("8: zeros", x.change(0, -5000), 1);
        dueText("8: zero without a sign", bytesOf(x, 0, 3), "48 48 48");
        due("8: the least long", x.change(0, Long.MIN_VALUE), 1);
        dueText("8: its lowest digits", shown(x, 0), "-808");
        due("8: binary", x.change(1, 65536 + 32768), 1);
        dueText("8: its lowest bytes", shown(x, 1), "-32768");
        x.poke(0, 1, (byte) 0);
        due("8: a bad one", x.change(0, 6), 1);
        dueText("8: is mended", shown(x, 0), "6");
        due("8: no fault", x.told(5), 0);
        due("8: nothing is kept", x.told(4), 0);
    }

    private static void back() {
        CobolDebugger x = program(0, 1, 0);
        x.item(0, 2);
        x.item(1, 2);
        x.step(1, 0, 7);
        x.step(2, 0, 8);
        x.step(3, 1, 9);
        due("9: none are kept", x.back(1), -4);
        due("9: none of none", x.back(0), 1);
        x.run(3);
        due("9: below 0", x.back(-1), -4);
        due("9: the least", x.back(MIN), -4);
        due("9: more than are kept", x.back(4), -4);
        due("9: nothing is taken back then", x.told(4), 3);
        due("9: none", x.back(0), 0);
        due("9: one", x.back(1), 3);
        dueText("9: its item", shown(x, 1), "0");
        dueText("9: not the other one", shown(x, 0), "15");
        due("9: its count", x.count(0), 1);
        due("9: the others", x.back(2), 1);
        dueText("9: the oldest bytes", shown(x, 0), "0");
        due("9: no count", x.count(0) + x.count(1), 0);
        due("9: none are kept any more", x.told(4), 0);

        CobolDebugger then = program(0, 0);
        then.item(0, 2);
        then.item(0, 2);
        then.step(1, 0, 7);
        then.run(1);
        then.step(1, 1, 5);
        then.change(0, 50);
        then.change(1, 60);
        due("9: what it did then", then.back(1), 1);
        dueText("9: the item of then", shown(then, 0), "0");
        dueText("9: not the item of now", shown(then, 1), "60");

        CobolDebugger bad = program(0, 0);
        bad.item(0, 1);
        bad.poke(0, 0, (byte) 5);
        bad.step(1, 0, 1);
        bad.run(1);
        bad.change(0, 3);
        bad.back(1);
        dueText("9: the bytes of a bad item too", byteOf(bad, 0, 0), "5");
        due("9: faults stay", bad.told(5), 1);
        bad.run(1);
        due("9: and grow", bad.told(5), 2);

        CobolDebugger nothing = program(0, 0);
        nothing.item(0, 1);
        nothing.run(1);
        nothing.change(0, 3);
        nothing.back(1);
        dueText("9: a statement without an item leaves them", shown(nothing, 0), "3");

        CobolDebugger grown = program(0);
        grown.run(1);
        grown.statement(0, 5);
        due("9: from the end", grown.back(1), 1);
        grown.run(1);
        due("9: to the new one", grown.told(3), 2);
    }

    private static void backThroughPerformings() {
        CobolDebugger x = program(0, 0);
        x.step(1, performing(0), 0);
        x.run(20);
        x.step(1, performing(3), 0);
        x.run(1);
        due("9: in the deepest one", x.told(3), 2);
        x.run(1);
        due("9: twenty ends, one by one", x.told(6), 19);
        x.back(1);
        due("9: open again", x.told(6), 20);
        x.back(2);
        due("9: one less", x.told(6), 19);

        CobolDebugger one = program(0);
        one.step(1, performing(0), 0);
        one.run(21);
        due("9: twenty ends at once", one.told(6), 0);
        due("9: the statement that ended them", one.back(1), 1);
        due("9: twenty are open again", one.told(6), 20);
        due("9: the oldest performed", one.performed(19), 1);
        one.run(1);
        due("9: and end again", one.told(3), 0);

        CobolDebugger mixed = program(0, 0, 1, 2);
        mixed.step(1, performing(1), 0);
        mixed.step(2, performing(2), 0);
        mixed.run(3);
        due("9: in the second", mixed.performed(0), 2);
        mixed.back(1);
        due("9: between them", mixed.performed(0), 0);
        mixed.back(1);
        due("9: in the first", mixed.performed(0), 1);
        due("9: at its statement", mixed.told(3), 3);
        mixed.run(1);
        due("9: behind the first again", mixed.told(3), 2);
    }

    private static void keptRows() {
        CobolDebugger y = program(0, 1, 1);
        y.item(0, 9);
        y.step(2, 0, 1);
        y.step(3, performing(1), 0);
        // 1, and then 2 and 3 until the twenty-first performing: 1 + 42 in all.
        y.run(200);
        due("9: 43 are run", y.told(4), 43);
        for (int i = 0; i < 10; i++) {
            y.back(42);
            y.run(200);
        }
        due("9: still 43", y.told(4), 43);
        dueText("9: of one way alone", shown(y, 0), "21");

        CobolDebugger z = program(new int[100]);
        z.item(1, 2);
        for (int i = 1; i <= 99; i++) {
            z.step(i, 0, 1);
        }
        z.step(100, performing(0), 0);
        z.run(200);
        z.run(101);
        due("9: of 301, 300 are kept", z.told(4), 300);
        due("9: and all are counted", z.count(0), 301);
        due("9: 301 back", z.back(301), -4);
        due("9: 300 back", z.back(300), 2);
        dueText("9: the first one stays", shown(z, 0), "1");
        due("9: it is counted", z.count(0), 1);
        due("9: none are open", z.told(6), 0);
        due("9: none are kept", z.told(4), 0);
    }

    private static void performed() {
        CobolDebugger x = program(0, 0, 1, 2);
        due("10: none", x.performed(0), 0);
        x.step(2, performing(1), 0);
        x.step(3, performing(2), 0);
        x.run(3);
        due("10: the newest", x.performed(0), 3);
        due("10: the one before", x.performed(1), 2);
        due("10: no third one", x.performed(2), 0);
        due("10: -1", x.performed(-1), 0);
        due("10: the most", x.performed(MAX), 0);
        due("10: the least", x.performed(MIN), 0);
        x.run(1);
        due("10: none behind", x.performed(0), 0);
    }

    private static void count() {
        CobolDebugger x = program(0, 19, 0);
        x.step(2, performing(5), 0);
        due("11: -1", x.count(-1), -4);
        due("11: 20", x.count(20), -4);
        due("11: none", x.count(0), 0);
        x.run(3);
        due("11: both runs of a number", x.count(0), 2);
        due("11: a fault is run too", x.count(19), 1);
        due("11: a paragraph that isn't there", x.count(5), 0);
    }

    private static void caught() {
        CobolDebugger x = new CobolDebugger();
        due("12: no stops", x.caught(0, 0), 0);
        x.stop(0, 7, 8);
        x.stop(4, 7, 9);
        x.stop(4, 7, 8);
        x.stop(4, 7, 8);
        x.stop(4, MIN, MAX);
        due("12: the least of two", x.caught(7, 8), 3);
        due("12: another terminal", x.caught(7, 9), 2);
        due("12: another code", x.caught(8, 8), 0);
        due("12: turned round", x.caught(8, 7), 0);
        due("12: least and most", x.caught(MIN, MAX), 5);
    }

    private static void near() {
        CobolDebugger x = new CobolDebugger();
        due("13: no items", x.near(0), -1);
        x.item(0, 1);
        due("13: one item", x.near(5), 0);
        x.item(0, 1);
        x.item(0, 1);
        due("13: itself", x.near(1), 1);
        due("13: the last", x.near(2), 2);
        due("13: above", x.near(3), 2);
        due("13: below", x.near(-1), 0);
        due("13: the most", x.near(MAX), 2);
        due("13: the least", x.near(MIN), 0);
    }

    private static void octet() {
        String none = "ArrayIndexOutOfBoundsException";
        CobolDebugger x = new CobolDebugger();
        dueText("14: no items", byteOf(x, 0, 0), none);
        x.item(0, 2);
        x.item(1, 4);
        x.item(2, 1);
        x.change(0, -19);
        x.change(1, -2);
        dueText("14: digits", bytesOf(x, 0, 2), "49 121");
        dueText("14: binary", bytesOf(x, 1, 4), "-1 -1 -1 -2");
        dueText("14: a constant", byteOf(x, 2, 0), "48");
        int[][] missing = {{0, 2}, {0, -1}, {1, 4}, {2, 1}, {3, 0}, {-1, 0}, {MIN, MIN}, {MAX, MAX}, {0, MAX}};
        for (int[] m : missing) {
            dueText("14: octet " + m[0] + ", " + m[1], byteOf(x, m[0], m[1]), none);
        }
    }

    private static void poke() {
        CobolDebugger x = new CobolDebugger();
        due("15: no items", x.poke(0, 0, (byte) 1), -2);
        x.item(0, 2);
        x.item(1, 2);
        x.item(2, 2);
        due("15: item -1", x.poke(-1, 0, (byte) 1), -2);
        due("15: item 3", x.poke(3, 9, (byte) 1), -2);
        due("15: byte -1", x.poke(0, -1, (byte) 49), -4);
        due("15: byte 2", x.poke(0, 2, (byte) 49), -4);
        due("15: the most byte", x.poke(1, MAX, (byte) 49), -4);
        dueText("15: nothing was poked", bytesOf(x, 0, 2), "48 48");
        due("15: a constant", x.poke(2, 0, (byte) 49), 0);
        due("15: a constant comes first", x.poke(2, 2, (byte) 49), 0);
        dueText("15: a constant stays", bytesOf(x, 2, 2), "48 48");
        due("15: a digit", x.poke(0, 0, (byte) 52), 1);
        dueText("15: says more", shown(x, 0), "40");
        due("15: a byte", x.poke(1, 1, (byte) -1), 1);
        dueText("15: without a sign, not the highest", shown(x, 1), "255");
        dueText("15: the other bytes stay", bytesOf(x, 1, 2), "0 -1");
    }

    private static void told() {
        CobolDebugger x = program(0, 0, 1);
        x.item(0, 1);
        x.item(0, 1);
        x.stop(4, 0, 0);
        x.step(1, performing(9), 0);
        x.step(2, performing(1), 0);
        x.run(2);
        int[] all = {3, 2, 1, 3, 2, 1, 1};
        for (int what = 0; what < all.length; what++) {
            due("16: told(" + what + ")", x.told(what), all[what]);
        }
        due("16: 7", x.told(7), -1);
        due("16: -1", x.told(-1), -1);
        due("16: the least", x.told(MIN), -1);
        due("16: the most", x.told(MAX), -1);
    }

    /** What README.md says that its example answers. */
    private static void exampleOfTheReadme() {
        CobolDebugger x = new CobolDebugger();
        int total = x.item(0, 4);
        int first = x.statement(0, 10);
        int second = x.statement(0, 20);
        int third = x.statement(1, 30);
        x.step(first, -2 - 1, 0);
        x.step(third, total, 25);
        int stop = x.stop(2, total, 0);
        due("README: run", x.run(200), stop);
        dueText("README: show", shown(x, total), "25");
        dueText("README: octet", byteOf(x, total, 3), "53");
        due("README: told", x.told(3), second);
        due("README: count", x.count(1), 1);
        due("README: back", x.back(1), third);
        dueText("README: show behind back", shown(x, total), "0");
        due("README: performed", x.performed(0), first);
    }
}
