/** The edges of what is done and undone, seen, kept in images and told anew: promises 6 to 9 and 21 to 26. */
public final class StateEdgesTest {
    private static final int CALLS = 512, UNDO_LIMIT = 10;

    public static void main(String[] args) {
        lastOfAllCalls();
        manyPrograms();
        laterCallsEnd();
        putsTakesEveryInstruction();
        putsFromNoneToSix();
        putsInPlace();
        leavesTakesEveryFact();
        tellsTakesEveryPipe();
        undoOneByOne();
        undoKnowsTen();
        undoOfEachKind();
        refusedIsNotUndone();
        othersAreNotUndone();
        undoMakesRoom();
        seesTakesEveryWrong();
        seesTakesFour();
        seenIsAsItWas();
        imagesOfEmptyAndFull();
        imagesAreKeptAnew();
        imagesKeepNothingElse();
        nothingUndoneBehindBack();
        readAnew();
        askingChangesNothing();
        doingChangesItsPart();
        countAtItsEdges();
        Check.end();
    }

    private static void lastOfAllCalls() {
        Check.topic("An object is used for at most 512 calls");
        FlushedPipes x = new FlushedPipes();
        for (int calls = 0; calls < CALLS - 6; calls += 2) {
            Check.due("type('x') behind " + calls, x.type('x'), 1);
            Check.due("clear() behind " + calls, x.clear(), 1);
        }
        Check.type(x, "u10;");
        Check.due("machine(), the 511th", x.machine(), 1);
        Check.due("deep(1, 0), the 512th", x.deep(1, 0), 1);
        x = Check.told("=ab;u10;");
        for (int calls = 9; calls < CALLS - 2; calls++) {
            Check.due("leaves(0) behind " + calls, x.leaves(0), calls % 2 == 1 ? 0 : 1);
        }
        Check.due("tells(3, 7, 1), the 511th", x.tells(3, 7, 1), 1);
        Check.due("undo(), the 512th", x.undo(), 9);
    }

    /** What older programs made is nowhere left: the last one is as on a new object. */
    private static void manyPrograms() {
        Check.topic("An object is used for at most 512 calls: a late program is gone through as an early one");
        FlushedPipes late = behindManyPrograms();
        StringBuilder text = new StringBuilder("=ab;");
        for (int k = 0; k < 6; k++) {
            text.append("o").append(late.instruction(k, 1)).append(late.instruction(k, 2));
            text.append(late.instruction(k, 3)).append(";");
        }
        FlushedPipes early = Check.told(text.toString());
        Check.due("wrong()", late.wrong(), early.wrong());
        for (int r = 0; r <= 3; r++) {
            Check.due("deep(" + r + ", 0)", late.deep(r, 0), early.deep(r, 0));
            Check.due("deep(" + r + ", 1)", late.deep(r, 1), early.deep(r, 1));
        }
        boolean alike = Sight.NOW.of(StateEdgesTest::behindManyPrograms, x -> 0)
            .equals(Sight.NOW.of(() -> Check.told(text.toString()), x -> 0));
        Check.due("it is as on a new object", alike ? 1 : 0, 1);
    }

    private static FlushedPipes behindManyPrograms() {
        FlushedPipes x = Check.told("=ab;n;n;n;n;n;n;");
        int some = 1;
        for (int i = 0; i < 150; i++) {
            some = (some * 1103515245 + 12345) & 0x7fffffff;
            x.puts(i % 6, 2, some >> 10 & 3, some >> 14 & 3, some >> 18 & 3);
            x.wrong();
        }
        return x;
    }

    private static void laterCallsEnd() {
        Check.topic("what later calls answer is free, but they end");
        FlushedPipes x = States.FULL.make();
        int odd = 0;
        for (int i = 0; i < 5000; i++) {
            x.leaves(i % 7 - 1);
            x.puts(i % 8 - 1, i % 4, i % 5, i % 3, i % 2);
            x.tells(i % 5, i % 9, i % 3);
            x.sees(i % 17);
            x.type(i % 257);
            odd += x.undo() > UNDO_LIMIT ? 1 : 0;
            odd += x.machine() > 12 ? 1 : 0;
            odd += x.wrong() > 15 || x.fewest() > 63 || x.needed() > 7 || x.broken(i % 7 - 2) > 7 ? 1 : 0;
            odd += x.keep(i % 3) > 6 || x.back(i % 4) > 6 || x.count(i % 11) > 100 ? 1 : 0;
        }
        Check.due("odd answers", odd, 0);
    }

    private static void putsTakesEveryInstruction() {
        Check.topic("6 puts: kind 0 .. 2; REGISTERS 0 .. 3");
        for (int code = 0; code < 3 * 64; code++) {
            int kind = code / 64;
            int d = code / 16 % 4;
            int s = code / 4 % 4;
            int t = code % 4;
            boolean fits = kind == 2 || t == 0 && (kind == 1 || d == 0 && s == 0);
            FlushedPipes x = new FlushedPipes();
            String call = "puts(0, " + kind + ", " + d + ", " + s + ", " + t + ")";
            Check.due(call, x.puts(0, kind, d, s, t), fits ? 1 : Check.BAD);
            Check.due(call + " count(2)", x.count(2), fits ? 1 : 0);
            int[] want = {kind, d, s, t};
            for (int what = 0; what <= 3; what++) {
                Check.due(call + " instruction", x.instruction(0, what), fits ? want[what] : Check.BAD);
            }
            Check.due(call + " again", x.puts(0, kind, d, s, t), fits ? Check.STATE : Check.BAD);
        }
    }

    private static void putsFromNoneToSix() {
        Check.topic("6 puts at the end (k: how many there are): how many there are; FULL: 6");
        FlushedPipes x = new FlushedPipes();
        for (int size = 0; size <= 5; size++) {
            Check.due("puts behind the end", x.puts(size + 1, 1, 3, 3, 0), Check.BAD);
            Check.due("puts(-1, ..)", x.puts(-1, 1, 3, 3, 0), Check.BAD);
            Check.due("puts at the end", x.puts(size, 1, 3, 3, 0), size + 1);
            Check.due("count(2)", x.count(2), size + 1);
        }
        Check.due("puts(6, ..)", x.puts(6, 1, 3, 3, 0), Check.FULL);
        Check.due("puts(7, ..)", x.puts(7, 1, 3, 3, 0), Check.BAD);
        Check.due("deep(3, 0)", x.deep(3, 0), 6);
        Check.due("undo()", x.undo(), 5);
        Check.due("puts(6, ..) with five", x.puts(6, 1, 3, 3, 0), Check.BAD);
        Check.due("puts(5, ..) with five", x.puts(5, 2, 3, 3, 3), 6);
        FlushedPipes told = Check.told("n;n;n;n;n;n;");
        Check.due("puts(6, ..) behind six told", told.puts(6, 0, 0, 0, 0), Check.FULL);
    }

    private static void putsInPlace() {
        Check.topic("6 puts in place of the k-th (0 on): the others stay; STATE: it is that");
        for (int k = 0; k <= 5; k++) {
            FlushedPipes x = Check.told("o001;o001;o001;o001;o001;o001;");
            Check.due("puts(" + k + ", as it is)", x.puts(k, 2, 0, 0, 1), Check.STATE);
            Check.due("puts, another kind", x.puts(k, 1, 0, 0, 0), 6);
            Check.due("puts, another D", x.puts(k, 1, 3, 0, 0), 6);
            Check.due("puts, another S", x.puts(k, 1, 3, 3, 0), 6);
            Check.due("puts, a T", x.puts(k, 2, 3, 3, 3), 6);
            Check.due("puts, another T", x.puts(k, 2, 3, 3, 2), 6);
            Check.due("puts(" + k + ", as it is)", x.puts(k, 2, 3, 3, 2), Check.STATE);
            Check.due("count(8)", x.count(8), 5);
            for (int j = 0; j <= 5; j++) {
                Check.due("instruction(" + j + ", 1)", x.instruction(j, 1), j == k ? 3 : 0);
                Check.due("instruction(" + j + ", 3)", x.instruction(j, 3), j == k ? 2 : 1);
            }
        }
        FlushedPipes x = new FlushedPipes();
        Check.due("nothing, where there is none", x.puts(0, 0, 0, 0, 0), 1);
        Check.due("nothing once more, at the end", x.puts(1, 0, 0, 0, 0), 2);
        Check.due("nothing in place of nothing", x.puts(1, 0, 0, 0, 0), Check.STATE);
    }

    private static void leavesTakesEveryFact() {
        Check.topic("7 A FACT is left out (0), or in again (1). BAD");
        for (int facts = 0; facts <= 6; facts++) {
            FlushedPipes x = Check.told("=aa;=aa;=aa;=aa;=aa;=aa;".substring(0, 4 * facts));
            Check.due("leaves(-1)", x.leaves(-1), Check.BAD);
            Check.due("leaves(" + facts + ")", x.leaves(facts), Check.BAD);
            Check.due("count(1): all are in at first", x.count(1), (1 << facts) - 1);
            for (int fact = 0; fact < facts; fact++) {
                Check.due("leaves(" + fact + ")", x.leaves(fact), 0);
                Check.due("count(1)", x.count(1), (1 << facts) - 1 - (1 << fact));
                Check.due("leaves(" + fact + ")", x.leaves(fact), 1);
                Check.due("count(1)", x.count(1), (1 << facts) - 1);
            }
            for (int fact = 0; fact < facts; fact++) {
                Check.due("leaves(" + fact + ")", x.leaves(fact), 0);
            }
            Check.due("count(1): none is in", x.count(1), 0);
            Check.due("count(0): all are told", x.count(0), facts);
        }
        Check.topic("one that is left out is as if it were not told");
        FlushedPipes x = Check.told("!aa;=ab;!ab;u00;u01;");
        x.leaves(0);
        x.leaves(2);
        Check.due("ruled()", x.ruled(), 0);
        Check.due("fact(2), left out", x.fact(2), 1);
        x.leaves(1);
        Check.due("fact(1), left out", x.fact(1), 0);
        Check.due("fact(2), left out", x.fact(2), 0);
    }

    private static void tellsTakesEveryPipe() {
        Check.topic("8 tells: LAG 0 .. 3, FORWARDS 0 .. 7, WAITS 0, 1; STATE: it is that");
        for (int pipe = 0; pipe < 64; pipe++) {
            int lag = pipe / 16;
            int forwards = pipe / 2 % 8;
            int waits = pipe % 2;
            FlushedPipes x = new FlushedPipes();
            boolean first = lag == 2 && forwards == 0 && waits == 0;
            Check.due("tells(" + lag + ", " + forwards + ", " + waits + ")", x.tells(lag, forwards, waits),
                first ? Check.STATE : 1);
            Check.dueCounts(x, 0, 0, 0, lag, forwards, waits, 0, 0, first ? 0 : 1);
            Check.due("again", x.tells(lag, forwards, waits), Check.STATE);
            Check.due("as at first", x.tells(2, 0, 0), first ? Check.STATE : 1);
        }
    }

    private static void undoOneByOne() {
        Check.topic("9 UNDONE: how many more may be. STATE: none");
        FlushedPipes x = Check.told("=ab;n;");
        Check.due("undo() of none", x.undo(), Check.STATE);
        Check.due("leaves(0)", x.leaves(0), 0);
        Check.due("undo() of the only one", x.undo(), 0);
        Check.due("count(1)", x.count(1), 1);
        Check.due("undo() of none", x.undo(), Check.STATE);
        Check.due("count(8)", x.count(8), 0);
    }

    /** The i-th done: LAG and FORWARDS tell i. */
    private static void doneAs(FlushedPipes x, int i) {
        Check.due("done " + i, x.tells(i / 8 % 4, i % 8, 1), 1);
    }

    private static void undoKnowsTen() {
        Check.topic("10 are known, older ones are lost");
        for (int done = 0; done <= 25; done++) {
            FlushedPipes x = new FlushedPipes();
            for (int i = 0; i < done; i++) {
                doneAs(x, i);
            }
            int known = Math.min(done, UNDO_LIMIT);
            Check.due("count(8) behind " + done, x.count(8), known);
            for (int i = 1; i <= known; i++) {
                Check.due("undo() behind " + done, x.undo(), known - i);
                duePipeBehind(x, done - i);
            }
            Check.due("undo() of none, behind " + done, x.undo(), Check.STATE);
            duePipeBehind(x, done - known);
        }
    }

    private static void duePipeBehind(FlushedPipes x, int done) {
        int last = done - 1;
        Check.due("LAG behind " + done, x.count(3), done == 0 ? 2 : last / 8 % 4);
        Check.due("FORWARDS behind " + done, x.count(4), done == 0 ? 0 : last % 8);
        Check.due("WAITS behind " + done, x.count(5), done == 0 ? 0 : 1);
    }

    private static void undoOfEachKind() {
        Check.topic("UNDONE: the latest puts(), leaves(), tells()");
        for (States state : States.values()) {
            Sight.Making is = () -> {
                FlushedPipes x = state.make();
                x.undo();
                x.undo();
                return x;
            };
            int last = state.instructions() - 1;
            Sight.dueUnchanged("tells, undone", is, x -> x.tells(1, 6, 1) + x.undo());
            Sight.dueUnchanged("puts in place, undone", is, x -> x.puts(Math.max(last, 0), 2, 3, 3, 2) + x.undo());
            if (state != States.FULL) {
                Sight.dueUnchanged("puts at the end, undone", is, x -> x.puts(last + 1, 1, 1, 1, 0) + x.undo());
            }
            if (state != States.NEW) {
                Sight.dueUnchanged("leaves, undone", is, x -> x.leaves(2) + x.undo());
                Sight.dueUnchanged("leaves twice, undone", is, x -> x.leaves(0) + x.leaves(0) + x.undo() + x.undo());
            }
        }
        FlushedPipes x = Check.told("n;");
        x.puts(1, 1, 0, 0, 0);
        x.puts(0, 1, 2, 2, 0);
        Check.due("undo() in place", x.undo(), 1);
        Check.due("count(2)", x.count(2), 2);
        Check.due("instruction(0, 0)", x.instruction(0, 0), 0);
        Check.due("undo() at the end", x.undo(), 0);
        Check.due("count(2)", x.count(2), 1);
        Check.due("instruction(1, 0)", x.instruction(1, 0), Check.BAD);
    }

    private static void refusedIsNotUndone() {
        Check.topic("UNDONE: the latest that was not refused");
        FlushedPipes x = Check.told("=ab;n;n;n;n;n;");
        x.tells(3, 5, 1);
        x.puts(5, 1, 2, 3, 0);
        Check.due("tells, BAD", x.tells(4, 0, 0), Check.BAD);
        Check.due("tells, STATE", x.tells(3, 5, 1), Check.STATE);
        Check.due("leaves, BAD", x.leaves(1), Check.BAD);
        Check.due("puts, BAD", x.puts(7, 0, 0, 0, 0), Check.BAD);
        Check.due("puts, STATE", x.puts(5, 1, 2, 3, 0), Check.STATE);
        Check.due("puts, FULL", x.puts(6, 1, 2, 3, 0), Check.FULL);
        Check.due("count(8)", x.count(8), 2);
        Check.due("undo()", x.undo(), 1);
        Check.dueCounts(x, 1, 1, 5, 3, 5, 1);
        Check.due("undo()", x.undo(), 0);
        Check.dueCounts(x, 1, 1, 5, 2, 0, 0);
    }

    private static void othersAreNotUndone() {
        Check.topic("UNDONE: puts(), leaves(), tells(), and no other call");
        FlushedPipes x = Check.told("u00;u00;");
        x.tells(3, 0, 0);
        Check.type(x, "ab");
        x.sees(1);
        x.keep(0);
        Check.due("count(8)", x.count(8), 1);
        Check.due("undo()", x.undo(), 0);
        Check.dueCounts(x, 0, 0, 2, 2, 0, 0, 1, 2, 0);
        Check.due("unseen()", x.unseen(), 85);
        Check.due("undo() can't be undone", x.undo(), Check.STATE);
        Check.due("back(0)", x.back(0), 2);
        Check.due("count(3)", x.count(3), 3);
    }

    private static void undoMakesRoom() {
        Check.topic("10 are known, full and emptied by turns");
        FlushedPipes x = new FlushedPipes();
        for (int i = 0; i < 12; i++) {
            doneAs(x, i);
        }
        for (int i = 11; i >= 8; i--) {
            x.undo();
        }
        Check.due("count(8)", x.count(8), 6);
        duePipeBehind(x, 8);
        for (int i = 8; i < 13; i++) {
            doneAs(x, i);
        }
        Check.due("count(8)", x.count(8), UNDO_LIMIT);
        for (int i = 12; i >= 3; i--) {
            Check.due("undo()", x.undo(), i - 3);
            duePipeBehind(x, i);
        }
        Check.due("undo()", x.undo(), Check.STATE);
    }

    private static void seesTakesEveryWrong() {
        Check.topic("21 sees: WRONG 0 .. 15");
        for (int wrong = -1; wrong <= 16; wrong++) {
            boolean fits = wrong >= 0 && wrong <= 15;
            FlushedPipes x = Check.told("u00;u00;u10;u20;u30;");
            x.tells(3, 0, 0);
            Check.due("sees(" + wrong + ")", x.sees(wrong), fits ? 1 : Check.BAD);
            Check.due("count(6)", x.count(6), fits ? 1 : 0);
            int want = 0;
            for (int forwards = 0; forwards <= 7; forwards++) {
                want |= !fits || wrongOfFive(forwards) == wrong ? 1 << forwards : 0;
            }
            Check.due("unseen() of " + wrong, x.unseen(), want);
        }
    }

    /** WRONG of u00;u00;u10;u20;u30; by LAG 3: each of 1, 2, 3 should read register 0 with two f's. */
    private static int wrongOfFive(int forwards) {
        int second = (forwards & 1) == 0 ? 1 : 2;
        int[] read = new int[5];
        for (int k = 2; k <= 4; k++) {
            boolean showsSecond = k - 1 > 3 || (forwards >> k - 2 & 1) == 1;
            boolean showsFirst = k > 3 || (forwards >> k - 1 & 1) == 1;
            read[k] = showsSecond ? second : showsFirst ? 1 : 0;
        }
        int wrong = second == 2 ? 0 : 1;
        for (int k = 2; k <= 4; k++) {
            wrong |= read[k] == 2 ? 0 : 1 << k - 1;
        }
        return wrong;
    }

    private static void seesTakesFour() {
        Check.topic("SEEN (4 at most): how much there is; FULL: 4; 22 Nothing is SEEN: how much was; 23 UNSEEN (bits)");
        FlushedPipes x = Check.told("u00;u00;");
        Check.due("unseen() with nothing seen", x.unseen(), 255);
        for (int seen = 0; seen <= 4; seen++) {
            for (int i = 1; i <= seen; i++) {
                Check.due("sees(1)", x.sees(1), i);
                Check.due("count(6)", x.count(6), i);
                Check.due("unseen()", x.unseen(), 85);
            }
            if (seen == 4) {
                Check.due("sees(0), the fifth", x.sees(0), Check.FULL);
                Check.due("sees(1), the fifth", x.sees(1), Check.FULL);
                Check.due("unseen()", x.unseen(), 85);
            }
            Check.due("forget()", x.forget(), seen);
            Check.due("count(6)", x.count(6), 0);
            Check.due("unseen()", x.unseen(), 255);
            Check.due("forget() again", x.forget(), 0);
        }
        x.sees(2);
        Check.due("unseen(): by none it is so", x.unseen(), 0);
        x.sees(1);
        Check.due("unseen(): and stays so", x.unseen(), 0);
        FlushedPipes none = new FlushedPipes();
        Check.due("sees(0) of no program", none.sees(0), 1);
        Check.due("unseen(): by all it is so", none.unseen(), 255);
        Check.due("sees(1) of no program", none.sees(1), 2);
        Check.due("unseen(): by none it is so", none.unseen(), 0);
    }

    private static void seenIsAsItWas() {
        Check.topic("SEEN: both as they are when it is SEEN, whatever they are later; a pipe that does not WAIT");
        Sight.Call[] later = {x -> x.tells(0, 0, 0), x -> x.tells(3, 7, 1), x -> x.puts(0, 0, 0, 0, 0),
            x -> x.puts(2, 2, 3, 0, 0), x -> x.undo(), x -> x.back(0), x -> x.leaves(0), x -> x.keep(1)};
        for (int waits = 0; waits <= 1; waits++) {
            for (Sight.Call call : later) {
                FlushedPipes x = Check.told("=faa;u01;u00;");
                x.keep(0);
                x.tells(1, 0, waits);
                x.puts(0, 1, 0, 0, 0);
                Check.due("sees(1)", x.sees(1), 1);
                Check.due("unseen(): by FORWARDS that are unknown, without FACTS", x.unseen(), 85);
                call.on(x);
                Check.due("unseen(), later", x.unseen(), 85);
                Check.due("count(6), later", x.count(6), 1);
            }
        }
        FlushedPipes x = Check.told("u00;u00;");
        x.tells(0, 0, 0);
        x.sees(0);
        Check.due("unseen() by LAG 0", x.unseen(), 255);
        x.sees(1);
        Check.due("unseen() by LAG 0", x.unseen(), 0);
    }

    private static void imagesOfEmptyAndFull() {
        Check.topic("24 An IMAGE is kept: INSTRUCTIONS; 25 All of that becomes as an IMAGE has it: INSTRUCTIONS");
        String[] program = {"u00;", "u11;", "u22;", "u33;", "o012;", "o123;"};
        String text = "=ab;!cd;";
        for (int size = 0; size <= 6; size++) {
            dueKept(text, size, 0);
            dueKept(text, size, 1);
            text += size < 6 ? program[size] : "";
        }
    }

    private static void dueKept(String text, int size, int image) {
        FlushedPipes x = Check.told(text);
        x.leaves(1);
        x.tells(0, 7, 1);
        Check.due("keep(" + image + ")", x.keep(image), size);
        x.leaves(0);
        x.tells(3, 1, 0);
        x.puts(0, 0, 0, 0, 0);
        Check.due("back of the other", x.back(1 - image), Check.STATE);
        Check.due("back(" + image + ")", x.back(image), size);
        Check.dueCounts(x, 2, 1, size, 0, 7, 1, 0, 0, 0);
        Check.due("instruction(0, 0)", x.instruction(0, 0), size == 0 ? Check.BAD : 1);
        Check.due("instruction(size, 0)", x.instruction(size, 0), Check.BAD);
        Check.due("back(" + image + ") again", x.back(image), size);
    }

    private static void imagesAreKeptAnew() {
        Check.topic("24 An IMAGE is kept, in place of an older one, the other one stays");
        FlushedPipes x = Check.told("u01;");
        Check.due("keep(0)", x.keep(0), 1);
        x.puts(1, 1, 1, 2, 0);
        Check.due("keep(1)", x.keep(1), 2);
        x.puts(2, 1, 2, 3, 0);
        Check.due("keep(0) anew", x.keep(0), 3);
        x.puts(0, 0, 0, 0, 0);
        Check.due("back(1)", x.back(1), 2);
        Check.due("instruction(0, 0)", x.instruction(0, 0), 1);
        Check.due("back(0)", x.back(0), 3);
        Check.due("instruction(2, 1)", x.instruction(2, 1), 2);
        x.puts(2, 0, 0, 0, 0);
        Check.due("back(0): what was put later is not in it", x.back(0), 3);
        Check.due("instruction(2, 1)", x.instruction(2, 1), 2);
    }

    private static void imagesKeepNothingElse() {
        Check.topic("IMAGES 0, 1 keep THE PROGRAM, which FACTS are in, THE PIPE; nothing else");
        for (int image = 0; image <= 1; image++) {
            int k = image;
            Sight.dueOnly("keep(" + k + ")", States.SOME, x -> x.keep(k), Sight.IMAGES);
            Sight.dueOnly("keep(" + k + ")", States.NEW, x -> x.keep(k), Sight.IMAGES);
        }
        Sight.dueOnly("keep(0)", States.FULL, x -> x.keep(0), Sight.IMAGES);
        Sight.dueUnchanged("keep(1), kept so", States.FULL, x -> x.keep(1));
        Sight.dueOnly("back(1), some", States.SOME, x -> x.back(1), Sight.NOW, Sight.UNDONE, Sight.UNDONE_PROGRAMS);
        Sight.dueOnly("back(0), full", States.FULL, x -> x.back(0), Sight.NOW, Sight.UNDONE, Sight.UNDONE_PROGRAMS);
        Sight.dueOnly("back(1), full", States.FULL, x -> x.back(1), Sight.UNDONE, Sight.UNDONE_PROGRAMS);
    }

    private static void nothingUndoneBehindBack() {
        Check.topic("nothing can be UNDONE behind back()");
        FlushedPipes x = States.FULL.make();
        Check.due("count(8)", x.count(8), UNDO_LIMIT);
        Check.due("back(2), refused", x.back(2), Check.BAD);
        Check.due("count(8)", x.count(8), UNDO_LIMIT);
        Check.due("keep(1)", x.keep(1), 6);
        Check.due("count(8) behind keep()", x.count(8), UNDO_LIMIT);
        Check.due("back(1)", x.back(1), 6);
        Check.due("count(8)", x.count(8), 0);
        Check.due("undo()", x.undo(), Check.STATE);
        Check.due("leaves(5)", x.leaves(5), 0);
        Check.due("undo() of what is done later", x.undo(), 0);
        Check.due("undo()", x.undo(), Check.STATE);
    }

    private static void readAnew() {
        Check.topic("Read anew: as told, THE PIPE as at first, nothing SEEN, IMAGES are gone");
        String[] texts = {"", "n;", "=ab;", States.SOME_TEXT, States.SIX_FACTS + States.SIX_INSTRUCTIONS};
        for (States state : States.values()) {
            for (String text : texts) {
                Sight.Making anew = () -> {
                    FlushedPipes x = state.make();
                    x.clear();
                    Check.type(x, text);
                    x.machine();
                    return x;
                };
                Sight.dueAlike("'" + text + "', " + state, anew, () -> Check.told(text));
            }
        }
        FlushedPipes x = States.FULL.make();
        Check.due("machine()", x.machine(), 12);
        Check.dueCounts(x, 6, 63, 6, 2, 0, 0, 0, 0, 0);
        Check.due("unseen()", x.unseen(), 255);
        Check.due("forget()", x.forget(), 0);
        Check.due("undo()", x.undo(), Check.STATE);
        Check.due("back(0)", x.back(0), Check.STATE);
        Check.due("back(1)", x.back(1), Check.STATE);
    }

    private static void askingChangesNothing() {
        Check.topic("what is asked changes nothing");
        for (States state : States.values()) {
            Sight.dueUnchanged("ruled()", state, x -> x.ruled());
            Sight.dueUnchanged("length()", state, x -> x.length());
            Sight.dueUnchanged("wrong()", state, x -> x.wrong());
            Sight.dueUnchanged("needed()", state, x -> x.needed());
            Sight.dueUnchanged("fewest()", state, x -> x.fewest());
            Sight.dueUnchanged("unseen()", state, x -> x.unseen());
            for (int i = -1; i <= 8; i++) {
                int k = i;
                Sight.dueUnchanged("broken(" + k + ")", state, x -> x.broken(k));
                Sight.dueUnchanged("count(" + k + ")", state, x -> x.count(k));
                Sight.dueUnchanged("fact(" + k + ")", state, x -> x.fact(k));
                Sight.dueUnchanged("step(" + k + ")", state, x -> x.step(k));
                Sight.dueUnchanged("instruction(" + k + ", 1)", state, x -> x.instruction(k, 1));
                Sight.dueUnchanged("equal(" + k + ", 3, 2)", state, x -> x.equal(k, 3, 2));
                Sight.dueUnchanged("deep(" + k + ", 1)", state, x -> x.deep(k, 1));
                Sight.dueUnchanged("term(3, 1, " + k + ")", state, x -> x.term(3, 1, k));
            }
        }
    }

    private static void doingChangesItsPart() {
        Check.topic("what is done changes its part alone");
        Sight[] undone = {Sight.UNDONE, Sight.UNDONE_PROGRAMS};
        Sight.dueOnly("type(';'), new", States.NEW, x -> x.type(';'), Sight.TEXT);
        Sight.dueOnly("type('x'), some", States.SOME, x -> x.type('x'), Sight.TEXT);
        Sight.dueOnly("sees(1), new", States.NEW, x -> x.sees(1), Sight.SEEN);
        Sight.dueOnly("sees(8), some", States.SOME, x -> x.sees(8), Sight.SEEN);
        Sight.dueUnchanged("forget() of nothing", States.NEW, x -> x.forget());
        Sight.dueOnly("forget(), some", States.SOME, x -> x.forget(), Sight.SEEN);
        Sight.dueOnly("forget(), full", States.FULL, x -> x.forget(), Sight.SEEN);
        for (States state : States.values()) {
            Sight.dueOnly("puts(0, ..), " + state, state, x -> x.puts(0, 2, 1, 1, 1), Sight.NOW, undone);
            Sight.dueOnly("tells(1, 4, 1), " + state, state, x -> x.tells(1, 4, 1), Sight.NOW, undone);
            if (state != States.NEW) {
                Sight.dueOnly("leaves(2), " + state, state, x -> x.leaves(2), Sight.NOW, undone);
                Sight.dueOnly("undo(), " + state, state, x -> x.undo(), Sight.NOW, undone);
            }
        }
    }

    private static void countAtItsEdges() {
        Check.topic("26 count at its least and its most");
        Check.dueCounts(new FlushedPipes(), 0, 0, 0, 2, 0, 0, 0, 0, 0);
        FlushedPipes x = States.FULL.make();
        Check.dueCounts(x, 6, 48, 6, 3, 4, 1, 4, 100, 10);
        x.tells(3, 7, 1);
        Check.due("count(4)", x.count(4), 7);
        for (int fact = 0; fact <= 3; fact++) {
            x.leaves(fact);
        }
        Check.due("count(1)", x.count(1), 63);
        x.tells(0, 0, 0);
        Check.dueCounts(x, 6, 63, 6, 0, 0, 0, 4, 100, 10);
        Check.due("count(-1)", x.count(-1), Check.BAD);
        Check.due("count(9)", x.count(9), Check.BAD);
    }
}
