/**
 * "Refused, and nothing changes, the first of these: BAD (a number is not as told, or there is no such thing), STATE
 * (as told), FULL." Every refusal of every promise, in three states; behind each of them nothing has changed.
 */
public final class RefusedTest {
    private static final int MIN = Integer.MIN_VALUE, MAX = Integer.MAX_VALUE;

    public static void main(String[] args) {
        for (States state : States.values()) {
            typeIsBad(state);
            instructionIsBad(state);
            putsAtNoPlaceIsBad(state);
            putsOfNoInstructionIsBad(state);
            leavesAndFactAreBad(state);
            tellsIsBad(state);
            equalIsBad(state);
            deepIsBad(state);
            termIsBad(state);
            stepIsBad(state);
            brokenIsBad(state);
            seesIsBad(state);
            imagesAreBad(state);
            countIsBad(state);
            putsOfTheSameIsState(state);
            tellsOfTheSameIsState(state);
            faultChangesNothing(state);
        }
        undoOfNoneIsState();
        backToNoneIsState();
        typeIsFull();
        putsIsFull();
        seesIsFull();
        badIsAheadOfState();
        badIsAheadOfFull();
        stateIsAheadOfFull();
        Check.end();
    }

    /** Next to a range, with the low bits of a number inside, and the ends of int. */
    private static int[] outside(int low, int high) {
        return new int[] {low - 1, high + 1, low - 2, high + 2, low - 32, high + 32, low - 256, high + 256, low + 65536,
            MIN, MIN + 1, MIN + high, MAX - 1, MAX};
    }

    private static int[] below(int low) {
        return new int[] {low - 1, low - 2, low - 256, MIN, MIN + 1, MIN + 256};
    }

    private static void refused(Sight.Making state, String call, Sight.Call made, int want) {
        Check.due(call, made.on(state.make()), want);
        Sight.dueUnchanged(call, state, made);
    }

    private static void typeIsBad(States state) {
        Check.topic("2 type: BAD (a letter is 0 .. 255), " + state);
        for (int letter : outside(0, 255)) {
            refused(state, "type(" + letter + ")", x -> x.type(letter), Check.BAD);
        }
    }

    private static void instructionIsBad(States state) {
        Check.topic("5 instruction: BAD (no such one; 0 kind, 1 D, 2 S, 3 T), " + state);
        for (int k : outside(0, state.instructions() - 1)) {
            for (int what = 0; what <= 3; what++) {
                int w = what;
                refused(state, "instruction(" + k + ", " + w + ")", x -> x.instruction(k, w), Check.BAD);
            }
        }
        for (int what : outside(0, 3)) {
            refused(state, "instruction(0, " + what + ")", x -> x.instruction(0, what), Check.BAD);
            refused(state, "instruction(last, " + what + ")", x -> x.instruction(state.instructions() - 1, what),
                Check.BAD);
        }
    }

    private static void putsAtNoPlaceIsBad(States state) {
        Check.topic("6 puts: BAD (in place of the k-th, or at the end), " + state);
        for (int k : outside(0, state.instructions())) {
            refusedPuts(state, k, 0, 0, 0, 0);
            refusedPuts(state, k, 2, 3, 2, 1);
        }
    }

    private static void refusedPuts(States state, int k, int kind, int d, int s, int t) {
        String call = "puts(" + k + ", " + kind + ", " + d + ", " + s + ", " + t + ")";
        refused(state, call, x -> x.puts(k, kind, d, s, t), Check.BAD);
    }

    private static void putsOfNoInstructionIsBad(States state) {
        Check.topic("6 puts: BAD (kind 0 .. 2; REGISTERS 0 .. 3, those that a kind does not have 0), " + state);
        int[] places = state.instructions() == 0 ? new int[] {0} : new int[] {0, state.instructions()};
        for (int k : places) {
            for (int kind : outside(0, 2)) {
                refusedPuts(state, k, kind, 0, 0, 0);
            }
            for (int register : outside(0, 3)) {
                for (int kind = 0; kind <= 2; kind++) {
                    refusedPuts(state, k, kind, register, 0, 0);
                    refusedPuts(state, k, kind, 0, register, 0);
                    refusedPuts(state, k, kind, 0, 0, register);
                }
            }
            for (int register = 1; register <= 3; register++) {
                refusedPuts(state, k, 0, register, 0, 0);
                refusedPuts(state, k, 0, 0, register, 0);
                refusedPuts(state, k, 0, 0, 0, register);
                refusedPuts(state, k, 1, 3, 2, register);
            }
        }
    }

    private static void leavesAndFactAreBad(States state) {
        Check.topic("7 leaves, 10 fact: BAD (no such FACT), " + state);
        for (int fact : outside(0, state.facts() - 1)) {
            refused(state, "leaves(" + fact + ")", x -> x.leaves(fact), Check.BAD);
            refused(state, "fact(" + fact + ")", x -> x.fact(fact), Check.BAD);
        }
    }

    private static void tellsIsBad(States state) {
        Check.topic("8 tells: BAD (LAG 0 .. 3, FORWARDS 0 .. 7, WAITS 0, 1), " + state);
        for (int lag : outside(0, 3)) {
            refused(state, "tells(" + lag + ", 7, 1)", x -> x.tells(lag, 7, 1), Check.BAD);
        }
        for (int forwards : outside(0, 7)) {
            refused(state, "tells(0, " + forwards + ", 1)", x -> x.tells(0, forwards, 1), Check.BAD);
        }
        for (int waits : outside(0, 1)) {
            refused(state, "tells(0, 7, " + waits + ")", x -> x.tells(0, 7, waits), Check.BAD);
        }
    }

    private static void equalIsBad(States state) {
        Check.topic("12 equal: BAD (REGISTERS 0 to 3, way 0, 1, 2), " + state);
        for (int r : outside(0, 3)) {
            for (int way = 0; way <= 2; way++) {
                int w = way;
                refused(state, "equal(" + r + ", 0, " + w + ")", x -> x.equal(r, 0, w), Check.BAD);
                refused(state, "equal(3, " + r + ", " + w + ")", x -> x.equal(3, r, w), Check.BAD);
            }
        }
        for (int way : outside(0, 2)) {
            refused(state, "equal(0, 0, " + way + ")", x -> x.equal(0, 0, way), Check.BAD);
            refused(state, "equal(3, 3, " + way + ")", x -> x.equal(3, 3, way), Check.BAD);
        }
    }

    private static void deepIsBad(States state) {
        Check.topic("13 deep: BAD (REGISTERS 0 to 3, way 0, 1), " + state);
        for (int r : outside(0, 3)) {
            refused(state, "deep(" + r + ", 0)", x -> x.deep(r, 0), Check.BAD);
            refused(state, "deep(" + r + ", 1)", x -> x.deep(r, 1), Check.BAD);
        }
        for (int way : outside(0, 1)) {
            refused(state, "deep(0, " + way + ")", x -> x.deep(0, way), Check.BAD);
            refused(state, "deep(3, " + way + ")", x -> x.deep(3, way), Check.BAD);
        }
    }

    private static void termIsBad(States state) {
        Check.topic("14 term: BAD (k below 0; REGISTERS 0 to 3, way 0, 1), " + state);
        for (int r : outside(0, 3)) {
            refused(state, "term(" + r + ", 0, 0)", x -> x.term(r, 0, 0), Check.BAD);
            refused(state, "term(" + r + ", 1, max)", x -> x.term(r, 1, MAX), Check.BAD);
        }
        for (int way : outside(0, 1)) {
            refused(state, "term(0, " + way + ", 0)", x -> x.term(0, way, 0), Check.BAD);
            refused(state, "term(3, " + way + ", max)", x -> x.term(3, way, MAX), Check.BAD);
        }
        for (int k : below(0)) {
            refused(state, "term(0, 0, " + k + ")", x -> x.term(0, 0, k), Check.BAD);
            refused(state, "term(3, 1, " + k + ")", x -> x.term(3, 1, k), Check.BAD);
        }
    }

    private static void stepIsBad(States state) {
        Check.topic("15 step: BAD (no such INSTRUCTION), " + state);
        for (int k : outside(0, state.instructions() - 1)) {
            refused(state, "step(" + k + ")", x -> x.step(k), Check.BAD);
        }
    }

    private static void brokenIsBad(States state) {
        Check.topic("20 broken: BAD (k below -1), " + state);
        for (int k : below(-1)) {
            refused(state, "broken(" + k + ")", x -> x.broken(k), Check.BAD);
        }
    }

    private static void seesIsBad(States state) {
        Check.topic("21 sees: BAD (WRONG 0 .. 15), " + state);
        for (int wrong : outside(0, 15)) {
            refused(state, "sees(" + wrong + ")", x -> x.sees(wrong), Check.BAD);
        }
    }

    private static void imagesAreBad(States state) {
        Check.topic("24 keep, 25 back: BAD (IMAGES 0, 1), " + state);
        for (int image : outside(0, 1)) {
            refused(state, "keep(" + image + ")", x -> x.keep(image), Check.BAD);
            refused(state, "back(" + image + ")", x -> x.back(image), Check.BAD);
        }
    }

    private static void countIsBad(States state) {
        Check.topic("26 count: BAD (0 .. 8), " + state);
        for (int what : outside(0, 8)) {
            refused(state, "count(" + what + ")", x -> x.count(what), Check.BAD);
        }
    }

    private static void putsOfTheSameIsState(States state) {
        Check.topic("6 puts: STATE: it is that, " + state);
        for (int i = 0; i < state.instructions(); i++) {
            int k = i;
            FlushedPipes is = state.make();
            int kind = is.instruction(k, 0);
            int d = is.instruction(k, 1);
            int s = is.instruction(k, 2);
            int t = is.instruction(k, 3);
            refused(state, "puts(" + k + ", as it is)", x -> x.puts(k, kind, d, s, t), Check.STATE);
        }
    }

    private static void tellsOfTheSameIsState(States state) {
        Check.topic("8 tells: STATE: it is that, " + state);
        FlushedPipes is = state.make();
        int lag = is.count(3);
        int forwards = is.count(4);
        int waits = is.count(5);
        refused(state, "tells(as it is)", x -> x.tells(lag, forwards, waits), Check.STATE);
        Check.due("tells(another LAG)", state.make().tells(3 - lag, forwards, waits), 1);
        Check.due("tells(other FORWARDS)", state.make().tells(lag, 7 - forwards, waits), 1);
        Check.due("tells(other WAITS)", state.make().tells(lag, forwards, 1 - waits), 1);
    }

    private static void faultChangesNothing(States state) {
        Check.topic("4 machine: -10 less FAULT: nothing changes, " + state);
        String[] texts = {"=ab;=a", "=cd;u21;;", "x", States.SIX_FACTS + "!", States.SIX_INSTRUCTIONS + "n;",
            "!fffffaa;", "o123;u14;", "=ffffd ggaagbc;n", States.padded("n;n;n").substring(0, 99) + "x"};
        int[] faults = {6, 8, 0, 29, 24, 5, 7, 16, 99};
        for (int i = 0; i < texts.length; i++) {
            String text = texts[i];
            Sight.Making spoilt = () -> {
                FlushedPipes x = state.make();
                x.clear();
                Check.type(x, text);
                return x;
            };
            refused(spoilt, "machine() of '" + text + "'", x -> x.machine(), -10 - faults[i]);
        }
    }

    private static void undoOfNoneIsState() {
        Check.topic("9 undo: STATE: none");
        refused(States.NEW, "undo() of a new object", x -> x.undo(), Check.STATE);
        refused(() -> Check.told(States.SOME_TEXT), "undo() of what was told", x -> x.undo(), Check.STATE);
        Sight.Making allUndone = () -> {
            FlushedPipes x = States.FULL.make();
            for (int i = 0; i < 10; i++) {
                x.undo();
            }
            return x;
        };
        refused(allUndone, "undo() behind ten", x -> x.undo(), Check.STATE);
        Sight.Making back = () -> {
            FlushedPipes x = States.SOME.make();
            x.back(1);
            return x;
        };
        refused(back, "undo() behind back()", x -> x.undo(), Check.STATE);
    }

    private static void backToNoneIsState() {
        Check.topic("25 back: STATE: none was kept");
        refused(States.NEW, "back(0)", x -> x.back(0), Check.STATE);
        refused(States.NEW, "back(1)", x -> x.back(1), Check.STATE);
        refused(States.SOME, "back(0), 1 was kept", x -> x.back(0), Check.STATE);
        Sight.Making first = () -> {
            FlushedPipes x = new FlushedPipes();
            x.puts(0, 1, 0, 1, 0);
            x.keep(0);
            x.tells(0, 0, 0);
            return x;
        };
        refused(first, "back(1), 0 was kept", x -> x.back(1), Check.STATE);
    }

    private static void typeIsFull() {
        Check.topic("2 type: FULL: 100");
        for (int letter : new int[] {0, ' ', ';', 'n', 255}) {
            refused(States.FULL, "type(" + letter + ")", x -> x.type(letter), Check.FULL);
        }
    }

    private static void putsIsFull() {
        Check.topic("6 puts: FULL: 6");
        refused(States.FULL, "puts(6, 0, ..)", x -> x.puts(6, 0, 0, 0, 0), Check.FULL);
        refused(States.FULL, "puts(6, 1, ..)", x -> x.puts(6, 1, 3, 3, 0), Check.FULL);
        refused(States.FULL, "puts(6, 2, ..)", x -> x.puts(6, 2, 3, 3, 3), Check.FULL);
    }

    private static void seesIsFull() {
        Check.topic("21 sees: FULL: 4");
        for (int wrong = 0; wrong <= 15; wrong++) {
            int w = wrong;
            refused(States.FULL, "sees(" + wrong + ")", x -> x.sees(w), Check.FULL);
        }
    }

    private static void badIsAheadOfState() {
        Check.topic("refused: BAD ahead of STATE");
        refused(States.NEW, "back(2), nothing kept", x -> x.back(2), Check.BAD);
        refused(States.NEW, "back(-1), nothing kept", x -> x.back(-1), Check.BAD);
        // What a kind does not have is 0: n with a register is not the n that is there.
        refused(States.SOME, "puts(2, 0, 0, 0, 1) on n", x -> x.puts(2, 0, 0, 0, 1), Check.BAD);
        refused(States.SOME, "puts(0, 1, 0, 1, 1) on u01", x -> x.puts(0, 1, 0, 1, 1), Check.BAD);
        refused(States.NEW, "tells(2, 0, 2) on 2, 0, 0", x -> x.tells(2, 0, 2), Check.BAD);
        refused(States.NEW, "tells(2, 8, 0) on 2, 0, 0", x -> x.tells(2, 8, 0), Check.BAD);
        refused(States.NEW, "tells(6, 0, 0) on 2, 0, 0", x -> x.tells(6, 0, 0), Check.BAD);
    }

    private static void badIsAheadOfFull() {
        Check.topic("refused: BAD ahead of FULL");
        refused(States.FULL, "type(256)", x -> x.type(256), Check.BAD);
        refused(States.FULL, "type(-1)", x -> x.type(-1), Check.BAD);
        refused(States.FULL, "sees(16)", x -> x.sees(16), Check.BAD);
        refused(States.FULL, "sees(-1)", x -> x.sees(-1), Check.BAD);
        refused(States.FULL, "puts(7, ..)", x -> x.puts(7, 0, 0, 0, 0), Check.BAD);
        refused(States.FULL, "puts(6, 3, ..)", x -> x.puts(6, 3, 0, 0, 0), Check.BAD);
        refused(States.FULL, "puts(6, 2, 4, ..)", x -> x.puts(6, 2, 4, 0, 0), Check.BAD);
        refused(States.FULL, "puts(6, 0, .., 1)", x -> x.puts(6, 0, 0, 0, 1), Check.BAD);
    }

    private static void stateIsAheadOfFull() {
        Check.topic("refused: STATE ahead of FULL");
        refused(States.FULL, "puts(5, as it is), 6 there", x -> x.puts(5, 1, 3, 3, 0), Check.STATE);
        Check.due("puts(5, another), 6 there", States.FULL.make().puts(5, 1, 3, 2, 0), 6);
        Check.due("puts(0, another), 6 there", States.FULL.make().puts(0, 1, 3, 2, 0), 6);
    }
}
