/** The edges of promises 1 to 5 and of "Terms": what a text may tell, how much, and where its FAULT is. */
public final class TextEdgesTest {
    private static final String STARTS = "=!nuo", TERMS = "abcdfg", CONSTANTS = "abcd", FIGURES = "0123";
    private static final int LETTERS = 256, TEXT_LIMIT = 100, DEEP_LIMIT = 4;

    public static void main(String[] args) {
        newObject();
        typeTakesEveryLetter();
        typeTakesHundred();
        clearOfEmptyAndFull();
        machineOfNothing();
        machineOfHundredLetters();
        machineEmptiesTheText();
        blanksBetweenTokens();
        firstTokens();
        termTokens();
        figureTokens();
        endTokens();
        sixFactsAtMost();
        sixInstructionsAtMost();
        fourDeepAtMost();
        fullTermsOfFacts();
        manyTerms();
        endsTooEarly();
        firstOfSeveralFaults();
        textGoesOnBehindFault();
        manyFaults();
        whatKindsDoNotHave();
        instructionRange();
        Check.end();
    }

    private static int machineOf(String text) {
        FlushedPipes x = new FlushedPipes();
        Check.type(x, text);
        return x.machine();
    }

    private static void dueFault(String text, int fault) {
        Check.due("machine() of '" + text + "'", machineOf(text), -10 - fault);
    }

    private static void newObject() {
        Check.topic("1 As told; no FACTS, no INSTRUCTIONS; THE PIPE: LAG 2 at first, no FORWARDS, WAITS 0");
        FlushedPipes x = new FlushedPipes();
        Check.dueCounts(x, 0, 0, 0, 2, 0, 0, 0, 0, 0);
        Check.due("fact(0)", x.fact(0), Check.BAD);
        Check.due("leaves(0)", x.leaves(0), Check.BAD);
        Check.due("instruction(0, 0)", x.instruction(0, 0), Check.BAD);
        Check.due("step(0)", x.step(0), Check.BAD);
        Check.due("clear()", x.clear(), 0);
        Check.due("forget()", x.forget(), 0);
        Check.due("unseen()", x.unseen(), 255);
        Check.due("ruled()", x.ruled(), 0);
        Check.due("undo()", x.undo(), Check.STATE);
        Check.due("back(0)", x.back(0), Check.STATE);
        Check.due("back(1)", x.back(1), Check.STATE);
        Check.topic("REGISTER k has CONSTANT k at first");
        for (int r = 0; r <= 3; r++) {
            Check.dueTerm(x, r, 0, CONSTANTS.substring(r, r + 1));
            Check.dueTerm(x, r, 1, CONSTANTS.substring(r, r + 1));
        }
        for (int r = 0; r <= 3; r++) {
            for (int s = 0; s <= 3; s++) {
                for (int way = 0; way <= 2; way++) {
                    Check.due("equal(" + r + ", " + s + ", " + way + ")", x.equal(r, s, way), r == s ? 1 : 0);
                }
            }
        }
    }

    private static void typeTakesEveryLetter() {
        Check.topic("2 A letter (0 .. 255) comes to THE TEXT");
        for (int letter = 0; letter < LETTERS; letter++) {
            FlushedPipes x = new FlushedPipes();
            Check.due("type(" + letter + ")", x.type(letter), 1);
            Check.due("type(" + letter + ")", x.type(letter), 2);
            Check.due("count(7)", x.count(7), 2);
        }
        FlushedPipes x = new FlushedPipes();
        Check.due("type(-1)", x.type(-1), Check.BAD);
        Check.due("type(256)", x.type(256), Check.BAD);
    }

    private static void typeTakesHundred() {
        Check.topic("2 how many it has; FULL: 100");
        FlushedPipes x = new FlushedPipes();
        for (int n = 1; n <= TEXT_LIMIT; n++) {
            Check.due("count(7)", x.count(7), n - 1);
            Check.due("type, the " + n + "-th", x.type('n'), n);
        }
        Check.due("type, the 101st", x.type('n'), Check.FULL);
        Check.due("count(7)", x.count(7), TEXT_LIMIT);
    }

    private static void clearOfEmptyAndFull() {
        Check.topic("3 THE TEXT is empty: how many letters it had");
        FlushedPipes x = new FlushedPipes();
        Check.due("clear() of an empty one", x.clear(), 0);
        x.type(0);
        Check.due("clear() of one letter", x.clear(), 1);
        Check.due("clear() again", x.clear(), 0);
        Check.type(x, "x".repeat(TEXT_LIMIT));
        Check.due("type", x.type('n'), Check.FULL);
        Check.due("clear() of a full one", x.clear(), TEXT_LIMIT);
        Check.due("count(7)", x.count(7), 0);
        Check.due("type behind it", x.type('n'), 1);
        Check.due("type behind it", x.type(';'), 2);
        Check.due("machine(): nothing older is there", x.machine(), 1);
        Sight.dueUnchanged("clear() of an empty one", States.NEW, FlushedPipes::clear);
        Sight.dueOnly("clear(), some", States.SOME, FlushedPipes::clear, Sight.TEXT);
        Sight.dueOnly("clear(), full", States.FULL, FlushedPipes::clear, Sight.TEXT);
    }

    private static void machineOfNothing() {
        Check.topic("4 machine of an empty text, and of one of blanks");
        Check.due("machine()", machineOf(""), 0);
        Check.due("machine() of a blank", machineOf(" "), 0);
        Check.due("machine() of 100 blanks", machineOf(" ".repeat(TEXT_LIMIT)), 0);
        for (States state : States.values()) {
            Sight.Making emptied = () -> {
                FlushedPipes x = state.make();
                x.clear();
                Check.due("machine()", x.machine(), 0);
                return x;
            };
            Sight.dueAlike("told nothing, " + state, emptied, States.NEW);
        }
    }

    private static void machineOfHundredLetters() {
        Check.topic("They are a text (100 letters at most)");
        String items = States.SIX_FACTS + States.SIX_INSTRUCTIONS;
        String blanks = " ".repeat(TEXT_LIMIT - items.length());
        Check.due("machine(), blanks first", machineOf(blanks + items), 12);
        Check.due("machine(), blanks last", machineOf(items + blanks), 12);
        String all = blanks + items;
        Check.due("its last letter", all.charAt(TEXT_LIMIT - 1), ';');
        String open = all.substring(0, TEXT_LIMIT - 1);
        dueFault(open + " ", TEXT_LIMIT);
        dueFault(open + "x", TEXT_LIMIT - 1);
        dueFault(open + "0", TEXT_LIMIT - 1);
        dueFault(open, TEXT_LIMIT - 1);
    }

    private static void machineEmptiesTheText() {
        Check.topic("4 THE TEXT tells all anew, and is empty then: how many ITEMS");
        FlushedPipes x = new FlushedPipes();
        Check.type(x, States.padded("n;"));
        Check.due("machine()", x.machine(), 1);
        Check.due("count(7)", x.count(7), 0);
        Check.due("clear()", x.clear(), 0);
        Check.due("type", x.type('n'), 1);
        Check.due("type", x.type(';'), 2);
        Check.due("machine()", x.machine(), 1);
        Check.due("count(2)", x.count(2), 1);
    }

    private static void blanksBetweenTokens() {
        Check.topic("blanks (32) between TOKENS");
        String tight = "=gafbfa;!ad;n;u32;o123;";
        Sight.Making told = () -> Check.told(tight);
        StringBuilder wide = new StringBuilder("  ");
        for (char token : tight.toCharArray()) {
            wide.append(token).append("  ");
        }
        Sight.dueAlike("blanks everywhere", () -> Check.told(wide.toString()), told);
        for (int i = 0; i <= tight.length(); i++) {
            String one = tight.substring(0, i) + " " + tight.substring(i);
            Sight.dueAlike("a blank at " + i, () -> Check.told(one), told);
        }
        for (int other : new int[] {0, 9, 10, 11, 12, 13, 31, 34, 95, 127, 128, 160, 255}) {
            for (int i = 0; i <= tight.length(); i++) {
                dueFault(tight.substring(0, i) + (char) other + tight.substring(i), i);
            }
        }
    }

    /** Behind a text, one letter more: those that can't stand there are the fault, others are gone by. */
    private static void dueNext(String text, String can) {
        for (int letter = 0; letter < LETTERS; letter++) {
            boolean fits = letter == ' ' || can.indexOf(letter) >= 0;
            dueFault(text + (char) letter, fits ? text.length() + 1 : text.length());
            dueFault(text + " " + (char) letter, fits ? text.length() + 2 : text.length() + 1);
        }
    }

    /** As above where an item has ended, or there is none: with a blank the text has not ended too early. */
    private static void dueStart(String text, String can, int items) {
        for (int letter = 0; letter < LETTERS; letter++) {
            String all = text + (char) letter;
            if (letter == ' ') {
                Check.due("machine() of '" + all + "'", machineOf(all), items);
            } else {
                dueFault(all, can.indexOf(letter) >= 0 ? text.length() + 1 : text.length());
            }
        }
    }

    private static void firstTokens() {
        Check.topic("FAULT: the place of the first TOKEN that can't stand there, of any other letter: an ITEM's first");
        dueStart("", STARTS, 0);
        dueStart("   ", STARTS, 0);
        dueStart("=ab;", STARTS, 1);
        dueStart("!ab;", STARTS, 1);
        dueStart("n;", STARTS, 1);
        dueStart("u00;", STARTS, 1);
        dueStart("o000;", STARTS, 1);
        dueStart("o000;n;=ab; ", STARTS, 3);
    }

    private static void termTokens() {
        Check.topic("FAULT: a TERM's first (a, b, c, d, f, g)");
        for (String text : new String[] {"=", "!", "=a", "!d", "=f", "=g", "=ga", "=gfa", "=gab", "=affg", "n;!fffa"}) {
            dueNext(text, TERMS);
        }
        Check.topic("FAULT: a TERM's part that would make it 5 deep");
        for (String text : new String[] {"=ffff", "=gggg", "!fgfg", "=ggggb", "=affff", "=agcgcgcgc", "=fafgfg"}) {
            dueNext(text, CONSTANTS);
        }
    }

    private static void figureTokens() {
        Check.topic("FAULT: the figures 0 to 3 (each by itself)");
        for (String text : new String[] {"u", "u0", "u3", "o", "o0", "o3", "o01", "o33", "n;u", "=ab;o2"}) {
            dueNext(text, FIGURES);
        }
    }

    private static void endTokens() {
        Check.topic("ITEMS, each ended by ;");
        for (String text : new String[] {"n", "u00", "u33", "o000", "o333", "=aa", "!dd", "=fafb", "=gabgba"}) {
            for (int letter = 0; letter < LETTERS; letter++) {
                String all = text + (char) letter;
                if (letter == ';') {
                    Check.due("machine() of '" + all + "'", machineOf(all), 1);
                } else {
                    dueFault(all, letter == ' ' ? all.length() : text.length());
                }
            }
        }
    }

    private static void sixFactsAtMost() {
        Check.topic("FACTS 0, 1, .. (6 at most); FAULT: a seventh FACT's first");
        for (int facts = 0; facts <= 5; facts++) {
            FlushedPipes x = Check.told("=ab;!ab;=ab;!cd;!cd;=ab;".substring(0, 4 * facts));
            Check.due("count(0)", x.count(0), facts);
            Check.due("count(1): all are in at first", x.count(1), (1 << facts) - 1);
            Check.due("fact(last) is there", facts == 0 || x.fact(facts - 1) >= 0 ? 1 : 0, 1);
            Check.due("fact(" + facts + ")", x.fact(facts), Check.BAD);
        }
        dueStart("=ab;!ab;=ab;!cd;!cd;", STARTS, 5);
        dueStart(States.SIX_FACTS, "nuo", 6);
        dueStart("!ab;!ab;!ab;!ab;!ab;!ab; ", "nuo", 6);
        dueStart("n;=ab;u00;=ab;=ab;=ab;=ab;n;=ab;", "nuo", 9);
        FlushedPipes x = Check.told(States.SIX_FACTS);
        Check.dueCounts(x, 6, 63, 0);
        dueFault(States.SIX_FACTS + "=ab;", States.SIX_FACTS.length());
        dueFault(States.SIX_FACTS + "n; !ab;", States.SIX_FACTS.length() + 3);
    }

    private static void sixInstructionsAtMost() {
        Check.topic("INSTRUCTIONS 0, 1, .. (6 at most); FAULT: a seventh INSTRUCTION's first");
        for (int size = 0; size <= 6; size++) {
            FlushedPipes x = Check.told("n;n;n;n;n;n;".substring(0, 2 * size));
            Check.due("count(2)", x.count(2), size);
            Check.due("instruction(" + size + ", 0)", x.instruction(size, 0), Check.BAD);
            Check.due("step(" + size + ")", x.step(size), Check.BAD);
        }
        dueStart("n;n;n;u00;o000;", STARTS, 5);
        dueStart(States.SIX_INSTRUCTIONS, "=!", 6);
        dueStart("n;n;n;n;n;n; ", "=!", 6);
        dueStart("=ab;n;n;!ab;n;n;n;u00;", "=!", 8);
        dueStart(States.SIX_INSTRUCTIONS + States.SIX_FACTS, "", 12);
        dueStart("n;=ab;n;=ab;n;=ab;n;=ab;n;=ab;n;=ab;", "", 12);
        dueFault(States.SIX_INSTRUCTIONS + "=ab; u00;", States.SIX_INSTRUCTIONS.length() + 5);
    }

    /** Every way down of f, and of g by its left and its right part: the fifth function is the fault. */
    private static void fourDeepAtMost() {
        Check.topic("those of FACTS are 4 deep at most; FAULT: what would make a TERM 5 deep");
        for (int way = 0; way < 243; way++) {
            for (String ahead : new String[] {"=", "!b", "=gffab", "u01;=fa"}) {
                StringBuilder four = new StringBuilder(ahead);
                StringBuilder rest = new StringBuilder();
                int left = way;
                for (int level = 0; level < DEEP_LIMIT; level++) {
                    four.append(left % 3 == 0 ? "f" : left % 3 == 1 ? "g" : "gc");
                    rest.append(left % 3 == 1 ? "d" : "");
                    left /= 3;
                }
                dueFault(four + (left == 0 ? "f" : "g") + "a", four.length());
                boolean second = ahead.length() > 1;
                String term = four + "a" + rest + (second ? ";" : "b;");
                Check.due("machine() of '" + term + "'", machineOf(term), ahead.startsWith("u") ? 2 : 1);
            }
        }
    }

    private static String fullTerm(int deep) {
        return deep == 0 ? "a" : "g" + fullTerm(deep - 1) + fullTerm(deep - 1);
    }

    private static void fullTermsOfFacts() {
        Check.topic("TERMS of FACTS, all parts 4 deep");
        String term = fullTerm(DEEP_LIMIT);
        String other = term.substring(0, term.length() - 1) + "b";
        FlushedPipes x = Check.told("!" + term + other + ";=" + term + "a;");
        Check.due("fact(0)", x.fact(0), 2);
        Check.due("fact(1)", x.fact(1), 1);
        dueFault("=" + fullTerm(DEEP_LIMIT + 1) + "a;", 5);
    }

    private static void manyTerms() {
        Check.topic("many TERMS: 100 letters, 6 FACTS and 6 INSTRUCTIONS");
        String[] pairs = {"aa", "ab", "ac", "ad", "ba", "bb", "bc", "bd", "ca", "cb", "cc", "cd"};
        StringBuilder text = new StringBuilder("=ffffaffffb;=ffffcffffd;");
        for (int i = 0; i < 12; i += 3) {
            text.append("!fffg" + pairs[i] + "gffg" + pairs[i + 1] + "ffg" + pairs[i + 2] + ";");
        }
        Check.due("its letters", text.length(), TEXT_LIMIT);
        FlushedPipes x = Check.told(text.toString());
        for (int k = 0; k < 6; k++) {
            Check.due("puts", x.puts(k, 2, k % 4, k % 4, (k + 1) % 4), k + 1);
        }
        Check.due("tells(3, 0, 0)", x.tells(3, 0, 0), 1);
        for (int fact = 0; fact <= 5; fact++) {
            Check.due("fact(" + fact + ")", x.fact(fact), fact < 2 ? 1 : 2);
        }
        Check.due("ruled()", x.ruled(), 0);
        Check.dueTerm(x, 0, 0, "ggabgbc");
        Check.dueTerm(x, 0, 1, "ggabb");
        Check.dueTerm(x, 1, 0, "ggbcgcd");
        Check.dueTerm(x, 1, 1, "ggbcc");
        Check.dueTerm(x, 3, 0, "gdgab");
        Check.dueTerm(x, 3, 1, "gda");
        Check.due("wrong()", x.wrong(), 11);
    }

    private static void endsTooEarly() {
        Check.topic("FAULT: the text's length, if it ends too early");
        String text = " = g a f b fc ; ! ab;n; u 0 1;o 1 2 3 ;  ";
        int items = 0;
        boolean open = false;
        for (int length = 0; length <= text.length(); length++) {
            char last = length == 0 ? ' ' : text.charAt(length - 1);
            items += last == ';' ? 1 : 0;
            open = last == ' ' ? open : last != ';';
            int want = open ? -10 - length : items;
            Check.due("machine() of its first " + length, machineOf(text.substring(0, length)), want);
        }
    }

    private static void firstOfSeveralFaults() {
        Check.topic("FAULT: the first, be it a TOKEN or another letter");
        dueFault("u0;x", 2);
        dueFault("x;u0;", 0);
        dueFault("n;;x", 2);
        dueFault("n;x;", 2);
        dueFault("u0x;;", 2);
        dueFault("=ab" + (char) 255 + "=ab", 3);
        dueFault("=fffffx", 5);
        dueFault("=ffffxf", 5);
        dueFault(States.SIX_INSTRUCTIONS + "nx", 24);
        dueFault(States.SIX_INSTRUCTIONS + "xn", 24);
    }

    private static void textGoesOnBehindFault() {
        Check.topic("4 -10 less FAULT: nothing changes, THE TEXT neither");
        FlushedPipes x = new FlushedPipes();
        Check.type(x, "u3");
        Check.due("machine()", x.machine(), -12);
        Check.due("machine() again", x.machine(), -12);
        Check.due("count(7)", x.count(7), 2);
        Check.due("type", x.type('2'), 3);
        Check.due("machine()", x.machine(), -13);
        Check.due("type", x.type(';'), 4);
        Check.due("machine()", x.machine(), 1);
        Check.dueTerm(x, 3, 0, "fc");
    }

    /** What a text with a fault told of TERMS is nowhere left, however often. */
    private static void manyFaults() {
        Check.topic("4 -10 less FAULT: nothing changes, however many there are");
        FlushedPipes x = Check.told("=ab;u01;");
        for (int i = 0; i < 16; i++) {
            char one = CONSTANTS.charAt(i / 4);
            char other = CONSTANTS.charAt(i % 4);
            String text = "=fffg" + one + other + "ffgf" + one + other + ";!ffg" + one + "f" + other;
            Check.type(x, text);
            Check.due("machine() of '" + text + "'", x.machine(), -10 - text.length());
            Check.due("clear()", x.clear(), text.length());
        }
        Check.type(x, "=ggfabca;!gggfabcdgad;u10;");
        Check.due("machine()", x.machine(), 3);
        Check.due("ruled()", x.ruled(), 1);
        x.leaves(0);
        Check.due("ruled()", x.ruled(), 0);
        Check.due("fact(0)", x.fact(0), 2);
        Check.dueTerm(x, 1, 0, "fa");
    }

    private static void whatKindsDoNotHave() {
        Check.topic("D, S, T: those that a kind does not have are 0");
        FlushedPipes x = Check.told("o333;u33;n;");
        int[][] want = {{2, 3, 3, 3}, {1, 3, 3, 0}, {0, 0, 0, 0}};
        for (int k = 0; k <= 2; k++) {
            for (int what = 0; what <= 3; what++) {
                Check.due("instruction(" + k + ", " + what + ")", x.instruction(k, what), want[k][what]);
            }
        }
        for (int code = 0; code < 64; code++) {
            int d = code / 16;
            int s = code / 4 % 4;
            int t = code % 4;
            FlushedPipes all = Check.told("o" + d + s + t + ";u" + d + s + ";");
            Check.due("o D", all.instruction(0, 1), d);
            Check.due("o S", all.instruction(0, 2), s);
            Check.due("o T", all.instruction(0, 3), t);
            Check.due("u D", all.instruction(1, 1), d);
            Check.due("u S", all.instruction(1, 2), s);
            Check.due("u T", all.instruction(1, 3), 0);
        }
    }

    private static void instructionRange() {
        Check.topic("5 Of an INSTRUCTION: 0 its kind, 1 D, 2 S, 3 T. BAD");
        FlushedPipes x = Check.told("o123;n;n;n;n;o321;");
        Check.due("instruction(-1, 0)", x.instruction(-1, 0), Check.BAD);
        Check.due("instruction(0, 0)", x.instruction(0, 0), 2);
        Check.due("instruction(5, 3)", x.instruction(5, 3), 1);
        Check.due("instruction(6, 3)", x.instruction(6, 3), Check.BAD);
        Check.due("instruction(0, -1)", x.instruction(0, -1), Check.BAD);
        Check.due("instruction(0, 3)", x.instruction(0, 3), 3);
        Check.due("instruction(5, 0)", x.instruction(5, 0), 2);
        Check.due("instruction(5, 4)", x.instruction(5, 4), Check.BAD);
    }
}
