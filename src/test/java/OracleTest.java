import java.util.Random;

/** Runs of calls by chance (always the same ones), each answer held against the oracle's. */
public final class OracleTest {
    private static final String LETTERS = "abcdfgnuo=!0123; ";
    private final Random chance;
    private FlushedPipes x;
    private Oracle oracle;
    private int calls;

    private OracleTest(long seed) {
        chance = new Random(seed);
    }

    public static void main(String[] args) {
        int runs = args.length > 0 ? Integer.parseInt(args[0]) : 400;
        long start = args.length > 1 ? Long.parseLong(args[1]) : 0;
        for (long seed = start; seed < start + runs; seed++) {
            Check.topic("run of seed " + seed);
            new OracleTest(seed).run();
        }
        everyPipe();
        Check.end();
    }

    /** Every pipe is broken, or not, by the oracle's program. */
    private static void everyPipe() {
        Check.topic("every pipe");
        for (int lag = 0; lag < 4; lag++) {
            for (int forwards = 0; forwards < 8; forwards++) {
                for (int waits = 0; waits < 2; waits++) {
                    FlushedPipes x = new FlushedPipes();
                    Oracle oracle = new Oracle();
                    x.tells(lag, forwards, waits);
                    oracle.tells(lag, forwards, waits);
                    for (int k = -2; k < 6; k++) {
                        Check.due("broken " + lag + forwards + waits + ", " + k, x.broken(k), oracle.broken(k));
                    }
                }
            }
        }
    }

    private void run() {
        x = new FlushedPipes();
        oracle = new Oracle();
        tell();
        while (calls < 500) {
            if (chance.nextInt(60) == 0) {
                tell();
            } else {
                call(chance.nextInt(26));
            }
        }
    }

    private void due(String call, int got, int want) {
        calls++;
        Check.due("call " + calls + ": " + call, got, want);
    }

    private void tell() {
        String text = text();
        if (chance.nextInt(4) == 0) {
            text = spoil(text);
        }
        for (int i = 0; i < text.length(); i++) {
            int letter = text.charAt(i);
            due("type(" + letter + ")", x.type(letter), oracle.type(letter));
        }
        due("machine() of '" + text + "'", x.machine(), oracle.machine());
        due("clear()", x.clear(), oracle.clear());
    }

    private String text() {
        StringBuilder text = new StringBuilder();
        int items = chance.nextInt(13);
        int deep = chance.nextInt(4);
        int constants = 1 + chance.nextInt(4);
        for (int i = 0; i < items; i++) {
            String item = chance.nextBoolean() ? instruction() : fact(deep, constants);
            if (text.length() + item.length() <= 100) {
                text.append(item);
            }
        }
        return text.toString();
    }

    private String instruction() {
        int registers = 1 + chance.nextInt(4);
        StringBuilder item = new StringBuilder();
        int kind = chance.nextInt(5);
        item.append(kind == 0 ? 'n' : kind < 3 ? 'u' : 'o');
        for (int i = 0; i < (kind == 0 ? 0 : kind < 3 ? 2 : 3); i++) {
            item.append((char) ('0' + chance.nextInt(registers))).append(chance.nextInt(9) == 0 ? " " : "");
        }
        return item.append(';').toString();
    }

    private String fact(int deep, int constants) {
        String sign = chance.nextInt(3) == 0 ? "!" : "=";
        return sign + term(deep, constants) + term(deep, constants) + ";";
    }

    private String term(int deep, int constants) {
        int kind = deep == 0 ? 0 : chance.nextInt(3);
        if (kind == 0) {
            return "abcd".substring(0, constants).charAt(chance.nextInt(constants)) + "";
        }
        return kind == 1 ? "f" + term(deep - 1, constants) : "g" + term(deep - 1, constants) + term(deep - 1, constants);
    }

    private String spoil(String text) {
        StringBuilder spoilt = new StringBuilder(text);
        int at = chance.nextInt(text.length() + 1);
        char letter = chance.nextInt(4) == 0 ? (char) chance.nextInt(256)
            : LETTERS.charAt(chance.nextInt(LETTERS.length()));
        switch (chance.nextInt(3)) {
            case 0:
                spoilt.insert(at, letter);
                break;
            case 1:
                spoilt.setLength(at);
                break;
            default:
                spoilt.replace(at, Math.min(at + 1, text.length()), "" + letter);
        }
        return spoilt.toString();
    }

    /** A number of 0 to last, at times one outside. */
    private int some(int last) {
        if (chance.nextInt(40) == 0) {
            int[] odd = {-1, last + 1, -2, Integer.MIN_VALUE, Integer.MAX_VALUE};
            return odd[chance.nextInt(odd.length)];
        }
        return chance.nextInt(last + 1);
    }

    private void call(int which) {
        int p = some(3);
        int q = some(3);
        int r = some(3);
        switch (which) {
            case 0: {
                int kind = some(2);
                int k = chance.nextInt(3) == 0 ? some(7) : oracle.count(2);
                int d = kind == 0 && chance.nextInt(9) > 0 ? 0 : p;
                int s = kind == 0 && chance.nextInt(9) > 0 ? 0 : q;
                int t = kind <= 1 && chance.nextInt(9) > 0 ? 0 : r;
                due("puts(" + k + ", " + kind + ", " + d + ", " + s + ", " + t + ")", x.puts(k, kind, d, s, t),
                    oracle.puts(k, kind, d, s, t));
                break;
            }
            case 1: case 2:
                p = some(5);
                due("leaves(" + p + ")", x.leaves(p), oracle.leaves(p));
                break;
            case 3: case 4: {
                int forwards = some(7);
                int waits = some(3) / 3;
                due("tells(" + p + ", " + forwards + ", " + waits + ")", x.tells(p, forwards, waits),
                    oracle.tells(p, forwards, waits));
                break;
            }
            case 5:
                due("undo()", x.undo(), oracle.undo());
                break;
            case 6: case 7:
                p = some(5);
                due("fact(" + p + ")", x.fact(p), oracle.fact(p));
                break;
            case 8:
                due("ruled()", x.ruled(), oracle.ruled());
                break;
            case 9: case 10:
                r = some(2);
                due("equal(" + p + ", " + q + ", " + r + ")", x.equal(p, q, r), oracle.equal(p, q, r));
                break;
            case 11:
                q = some(1);
                due("deep(" + p + ", " + q + ")", x.deep(p, q), oracle.deep(p, q));
                break;
            case 12: case 13:
                q = some(1);
                r = some(chance.nextBoolean() ? 3 : 130);
                due("term(" + p + ", " + q + ", " + r + ")", x.term(p, q, r), oracle.term(p, q, r));
                break;
            default:
                callMore(which, p, q);
        }
    }

    private void callMore(int which, int p, int q) {
        switch (which) {
            case 14:
                p = some(5);
                due("step(" + p + ")", x.step(p), oracle.step(p));
                break;
            case 15:
                due("length()", x.length(), oracle.length());
                break;
            case 16:
                due("wrong()", x.wrong(), oracle.wrong());
                break;
            case 17:
                due("needed()", x.needed(), oracle.needed());
                break;
            case 18:
                due("fewest()", x.fewest(), oracle.fewest());
                break;
            case 19: {
                p = chance.nextInt(3) > 0 ? oracle.wrong() : some(15);
                due("sees(" + p + ")", x.sees(p), oracle.sees(p));
                break;
            }
            case 20:
                if (chance.nextInt(3) == 0) {
                    due("forget()", x.forget(), oracle.forget());
                }
                due("unseen()", x.unseen(), oracle.unseen());
                break;
            case 21:
                p = some(1);
                due("keep(" + p + ")", x.keep(p), oracle.keep(p));
                break;
            case 22:
                p = some(1);
                due("back(" + p + ")", x.back(p), oracle.back(p));
                break;
            case 23: case 24:
                p = some(8);
                due("count(" + p + ")", x.count(p), oracle.count(p));
                break;
            default:
                p = some(5);
                due("instruction(" + p + ", " + q + ")", x.instruction(p, q), oracle.instruction(p, q));
        }
    }
}
