/** What the tests share: answers held against those that are due. */
final class Check {
    static final int BAD = -1, STATE = -2, FULL = -3, NONE = -9;
    private static int wrong = 0;
    private static String topic = "";

    private Check() {
    }

    static void topic(String name) {
        topic = name;
    }

    static void due(String call, long got, long want) {
        if (got != want) {
            wrong++;
            System.out.println(topic + ": " + call + " answered " + got + ", due is " + want);
        }
    }

    static void type(FlushedPipes x, String text) {
        for (int i = 0; i < text.length(); i++) {
            x.type(text.charAt(i));
        }
    }

    /** A new object that a text has told; the text must be right. */
    static FlushedPipes told(String text) {
        FlushedPipes x = new FlushedPipes();
        type(x, text);
        int items = x.machine();
        int want = 0;
        for (int i = 0; i < text.length(); i++) {
            want += text.charAt(i) == ';' ? 1 : 0;
        }
        due("machine() of '" + text + "'", items, want);
        return x;
    }

    static void dueTerm(FlushedPipes x, int r, int way, String want) {
        for (int k = 0; k < want.length(); k++) {
            due("term(" + r + ", " + way + ", " + k + ")", x.term(r, way, k), want.charAt(k));
        }
        due("term(" + r + ", " + way + ", " + want.length() + ")", x.term(r, way, want.length()), NONE);
    }

    static void dueCounts(FlushedPipes x, int... want) {
        for (int what = 0; what < want.length; what++) {
            due("count(" + what + ")", x.count(what), want[what]);
        }
    }

    static void end() {
        System.out.println(wrong == 0 ? "all answers are as due" : wrong + " answers are not as due");
        if (wrong != 0) {
            System.exit(1);
        }
    }
}
