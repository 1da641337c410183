/** What the tests by hand share: answers against the ones due, and small programs. */
class Checks {
    static final int MIN = Integer.MIN_VALUE;
    static final int MAX = Integer.MAX_VALUE;

    private static int wrong = 0;

    static void due(String what, long got, long want) {
        dueText(what, Long.toString(got), Long.toString(want));
    }

    static void dueText(String what, String got, String want) {
        if (!got.equals(want)) {
            wrong++;
            System.out.println(what + ": answered " + got + ", due is " + want);
        }
    }

    static void end() {
        System.out.println(wrong == 0 ? "all answers are as due" : wrong + " answers are not as due");
        if (wrong != 0) {
            System.exit(1);
        }
    }

    interface Call {
        long on(CobolDebugger x);
    }

    /** The call's answer, or the name of what it throws; the machine's own throw is told from the written one. */
    static String answer(CobolDebugger x, Call call) {
        try {
            return Long.toString(call.on(x));
        } catch (RuntimeException e) {
            boolean byMachine = e.getMessage() != null && e.getMessage().contains("out of bounds for length");
            return byMachine ? "thrown by the machine" : e.getClass().getSimpleName();
        }
    }

    static String shown(CobolDebugger x, int item) {
        return answer(x, y -> y.show(item));
    }

    static String byteOf(CobolDebugger x, int item, int i) {
        return answer(x, y -> y.octet(item, i));
    }

    static String bytesOf(CobolDebugger x, int item, int size) {
        StringBuilder all = new StringBuilder();
        for (int i = 0; i < size; i++) {
            all.append(i == 0 ? "" : " ").append(byteOf(x, item, i));
        }
        return all.toString();
    }

    /** Statements in these paragraphs, on lines 10, 20, .. */
    static CobolDebugger program(int... paragraphs) {
        CobolDebugger x = new CobolDebugger();
        for (int i = 0; i < paragraphs.length; i++) {
            x.statement(paragraphs[i], 10 * (i + 1));
        }
        return x;
    }

    static int performing(int paragraph) {
        return -2 - paragraph;
    }

    /** Runs one by one, telling where the program stands behind each. */
    static String walk(CobolDebugger x, int most) {
        StringBuilder way = new StringBuilder();
        for (int i = 0; i < most && x.told(3) != 0; i++) {
            x.run(1);
            way.append(i == 0 ? "" : " ").append(x.told(3));
        }
        return way.toString();
    }
}
