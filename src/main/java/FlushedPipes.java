import java.util.Arrays;

/** A program held against a pipe, by facts on terms with unknown functions; the document is ../shared/DOC.md. */
public final class FlushedPipes {
    public static final int BAD = -1, STATE = -2, FULL = -3, NONE = -9;

    private static final int REGISTERS = 4;
    private static final int FACT_LIMIT = 6;
    private static final int PROGRAM_LIMIT = 6;
    private static final int TEXT_LIMIT = 100;
    private static final int DEEP_LIMIT = 4;
    private static final int UNDO_LIMIT = 10;
    private static final int SEEN_LIMIT = 4;
    private static final int IMAGES = 2;
    private static final int LAG_LIMIT = 3;
    private static final int ALL_FORWARDS = 7;
    private static final int ALL_WRONG = 15;
    private static final int BREAKING_LIMIT = 4;

    /** The 4 constants, what a text of 100 letters can tell, and what 6 instructions make PLAIN and PIPED. */
    private static final int TERM_LIMIT = REGISTERS + TEXT_LIMIT + 2 * PROGRAM_LIMIT;
    private static final int BREAKING_TERMS = REGISTERS + 2 * BREAKING_LIMIT;

    /** The heads of terms above those of the constants, 0 to 3. */
    private static final int HEAD_F = 4, HEAD_G = 5;

    private static final int FAULT_BASE = -10;
    private static final int END_OF_TEXT = -1;
    private static final int NO_TERM = -1;
    private static final int NO_CODE = -1;
    private static final int NO_MAKER = -1;
    private static final int NO_TARGET = -1;
    private static final int NOT_SOUGHT = -1, NOT_BROKEN = 0;

    /** FORWARDS, those of fewer bits first, then the lower ones. */
    private static final int[] FORWARDS_BY_BITS = {0, 1, 2, 4, 3, 5, 6, 7};

    /** Terms, each of them once, so that two are one and the same exactly if their numbers are. */
    private static final class Terms {
        final int[] head;
        final int[] left;
        /** For f it is the left one again: so f and g can be compared alike. */
        final int[] right;
        final int[] depth;
        final int[] letters;
        int size;
        int lasting;

        Terms(int limit) {
            int room = Math.max(limit, REGISTERS);
            head = new int[room];
            left = new int[room];
            right = new int[room];
            depth = new int[room];
            letters = new int[room];
            for (int i = 0; i < REGISTERS; i++) {
                head[i] = i;
                left[i] = i;
                right[i] = i;
                letters[i] = 1;
            }
            forgetAll();
        }

        void forgetAll() {
            size = REGISTERS;
            lasting = REGISTERS;
        }

        /** What stands now outlives dropPassing(). */
        void makeLasting() {
            lasting = size;
        }

        /** Terms of registers are made anew by every call that asks for them. */
        void dropPassing() {
            size = lasting;
        }

        boolean has(int term) {
            return term >= 0 && term < size && term < head.length;
        }

        /** The term of a head, f or g, and its parts; for f the second part is not looked at. */
        int make(int top, int first, int part) {
            int second = top == HEAD_G ? part : first;
            int place = placeOf(top, first, second);
            if (!has(first) || !has(second) || place < 0 || place >= head.length) {
                return 0;
            }
            if (place >= size) {
                head[place] = top;
                left[place] = first;
                right[place] = second;
                depth[place] = 1 + Math.max(depth[first], depth[second]);
                letters[place] = 1 + letters[first] + (top == HEAD_G ? letters[second] : 0);
                size = place + 1;
            }
            return place;
        }

        /** Where the term stands, or, if it is not there, where it comes to stand. */
        private int placeOf(int top, int first, int second) {
            for (int i = REGISTERS; i < size && i < head.length; i++) {
                if (head[i] == top && left[i] == first && right[i] == second) {
                    return i;
                }
            }
            return size;
        }

        int depthOf(int term) {
            return has(term) ? depth[term] : 0;
        }

        private int lettersOf(int term) {
            return has(term) ? letters[term] : 0;
        }

        int leftOf(int term) {
            return has(term) ? left[term] : NO_TERM;
        }

        int rightOf(int term) {
            return has(term) ? right[term] : NO_TERM;
        }

        int headOf(int term) {
            return has(term) ? head[term] : NO_TERM;
        }

        /** The k-th letter of a term; NONE behind its last one. */
        int letterOf(int term, int k) {
            if (!has(term) || k < 0 || k >= letters[term]) {
                return NONE;
            }
            int at = term;
            int ahead = k;
            for (int level = 0; level < head.length && ahead > 0 && has(at); level++) {
                ahead--;
                int first = lettersOf(left[at]);
                if (ahead < first) {
                    at = left[at];
                } else {
                    ahead -= first;
                    at = right[at];
                }
            }
            return has(at) ? signOf(head[at]) : NONE;
        }

        private static int signOf(int top) {
            return top == HEAD_F ? 'f' : top == HEAD_G ? 'g' : 'a' + top;
        }
    }

    /** Instructions; each is one number, so that two are compared, and copied, as numbers. */
    private static final class Program {
        final int[] codes = new int[PROGRAM_LIMIT];
        int size;

        void forgetAll() {
            size = 0;
        }

        void copyFrom(Program other) {
            System.arraycopy(other.codes, 0, codes, 0, PROGRAM_LIMIT);
            size = other.size;
        }

        static int codeOf(int kind, int d, int s, int t) {
            return kind << 6 | d << 4 | s << 2 | t;
        }

        boolean has(int k) {
            return k >= 0 && k < size && k < PROGRAM_LIMIT;
        }

        int codeAt(int k) {
            return has(k) ? codes[k] : NO_CODE;
        }

        /** In place of the k-th, or at the end; anything else is left alone. */
        void set(int k, int code) {
            if (k < 0 || k > size || k >= PROGRAM_LIMIT) {
                return;
            }
            codes[k] = code;
            if (k == size) {
                size = k + 1;
            }
        }

        static int kindOf(int code) {
            return code >> 6 & 3;
        }

        static int targetOf(int code) {
            return code >> 4 & 3;
        }

        static int firstOf(int code) {
            return code >> 2 & 3;
        }

        static int secondOf(int code) {
            return code & 3;
        }
    }

    private static final class Pipe {
        int lag;
        int forwards;
        int waits;

        Pipe() {
            setFirst();
        }

        void setFirst() {
            set(2, 0, 0);
        }

        void set(int newLag, int newForwards, int newWaits) {
            lag = newLag;
            forwards = newForwards;
            waits = newWaits;
        }

        void copyFrom(Pipe other) {
            set(other.lag, other.forwards, other.waits);
        }

        boolean is(int otherLag, int otherForwards, int otherWaits) {
            return lag == otherLag && forwards == otherForwards && waits == otherWaits;
        }

        boolean shows(int distance) {
            return distance > lag || distance >= 1 && distance <= LAG_LIMIT && (forwards >> distance - 1 & 1) == 1;
        }

        /** Then every instruction reads what the one ahead of it made, as PLAIN. */
        boolean hidesNothing() {
            int late = (1 << lag) - 1;
            return waits == 1 || (forwards & late) == late;
        }
    }

    /** All that can be undone, and that an image keeps. */
    private static final class Setting {
        final Program program = new Program();
        final Pipe pipe = new Pipe();
        int factsIn;

        void copyFrom(Setting other) {
            program.copyFrom(other.program);
            pipe.copyFrom(other.pipe);
            factsIn = other.factsIn;
        }

        void startAs(Told told) {
            program.copyFrom(told.program);
            pipe.setFirst();
            factsIn = (1 << told.facts) - 1;
        }
    }

    /** The latest settings; an older one makes room for a newer one. */
    private static final class History {
        final Setting[] settings = new Setting[UNDO_LIMIT];
        int size;

        History() {
            for (int i = 0; i < UNDO_LIMIT; i++) {
                settings[i] = new Setting();
            }
        }

        void forgetAll() {
            size = 0;
        }

        void remember(Setting setting) {
            if (size >= UNDO_LIMIT) {
                dropOldest();
            }
            if (size >= 0 && size < UNDO_LIMIT) {
                settings[size].copyFrom(setting);
                size++;
            }
        }

        private void dropOldest() {
            Setting oldest = settings[0];
            for (int i = 1; i < UNDO_LIMIT; i++) {
                settings[i - 1] = settings[i];
            }
            settings[UNDO_LIMIT - 1] = oldest;
            size = UNDO_LIMIT - 1;
        }

        void restoreLatest(Setting setting) {
            if (size > 0 && size <= UNDO_LIMIT) {
                size--;
                setting.copyFrom(settings[size]);
            }
        }
    }

    /** What a text has told: facts with their terms, and the program as it was told. */
    private static final class Told {
        final Terms terms = new Terms(TERM_LIMIT);
        final Program program = new Program();
        final int[] first = new int[FACT_LIMIT];
        final int[] second = new int[FACT_LIMIT];
        final boolean[] alike = new boolean[FACT_LIMIT];
        int facts;

        void forgetAll() {
            terms.forgetAll();
            program.forgetAll();
            facts = 0;
        }

        boolean has(int fact) {
            return fact >= 0 && fact < facts && fact < FACT_LIMIT;
        }

        void addFact(boolean equal, int one, int other) {
            if (facts >= 0 && facts < FACT_LIMIT) {
                alike[facts] = equal;
                first[facts] = one;
                second[facts] = other;
                facts++;
            }
        }

        /** Whether a fact is one of these (bits), and is EQUAL, or is UNLIKE. */
        boolean isAmong(int facts, int fact, boolean equal) {
            return has(fact) && (facts >> fact & 1) == 1 && alike[fact] == equal;
        }

        int firstOf(int fact) {
            return has(fact) ? first[fact] : 0;
        }

        int secondOf(int fact) {
            return has(fact) ? second[fact] : 0;
        }
    }

    /** Reads a text; where it stops short, place is the FAULT. */
    private static final class Reader {
        final int[] text = new int[TEXT_LIMIT];
        int size;
        private int place;

        boolean isFull() {
            return size >= TEXT_LIMIT;
        }

        void append(int letter) {
            if (size >= 0 && size < TEXT_LIMIT) {
                text[size] = letter;
                size++;
            }
        }

        /** How many items; FAULT_BASE less FAULT, if there is one. */
        int readAll(Told told) {
            told.forgetAll();
            place = 0;
            int items = 0;
            while (items < TEXT_LIMIT && peek() != END_OF_TEXT) {
                if (!readItem(told)) {
                    return FAULT_BASE - place;
                }
                items++;
            }
            told.terms.makeLasting();
            return items;
        }

        /** The letter of the next token, at which place then is. */
        private int peek() {
            while (place >= 0 && place < size && place < TEXT_LIMIT && text[place] == ' ') {
                place++;
            }
            return place >= 0 && place < size && place < TEXT_LIMIT ? text[place] : END_OF_TEXT;
        }

        private boolean accept(int letter) {
            if (peek() != letter) {
                return false;
            }
            place++;
            return true;
        }

        private boolean readItem(Told told) {
            switch (peek()) {
                case '=':
                    return readFact(told, true);
                case '!':
                    return readFact(told, false);
                case 'n':
                    return readInstruction(told, 0);
                case 'u':
                    return readInstruction(told, 1);
                case 'o':
                    return readInstruction(told, 2);
                default:
                    return false;
            }
        }

        private boolean readFact(Told told, boolean equal) {
            if (told.facts >= FACT_LIMIT) {
                return false;
            }
            place++;
            int one = readTerm(told.terms, 0);
            if (one == NO_TERM) {
                return false;
            }
            int other = readTerm(told.terms, 0);
            if (other == NO_TERM || !accept(';')) {
                return false;
            }
            told.addFact(equal, one, other);
            return true;
        }

        /** The level is how many functions the term stands in: at the last level only constants fit. */
        private int readTerm(Terms terms, int level) {
            int letter = peek();
            if (letter >= 'a' && letter <= 'd') {
                place++;
                return letter - 'a';
            }
            if (letter != 'f' && letter != 'g' || level >= DEEP_LIMIT) {
                return NO_TERM;
            }
            place++;
            int one = readTerm(terms, level + 1);
            if (one == NO_TERM) {
                return NO_TERM;
            }
            if (letter == 'f') {
                return terms.make(HEAD_F, one, one);
            }
            int other = readTerm(terms, level + 1);
            return other == NO_TERM ? NO_TERM : terms.make(HEAD_G, one, other);
        }

        private boolean readInstruction(Told told, int kind) {
            if (told.program.size >= PROGRAM_LIMIT) {
                return false;
            }
            place++;
            int figures = kind == 0 ? 0 : kind + 1;
            int operands = 0;
            for (int i = 0; i < figures; i++) {
                int letter = peek();
                if (letter < '0' || letter > '3') {
                    return false;
                }
                place++;
                operands = operands << 2 | letter - '0';
            }
            if (!accept(';')) {
                return false;
            }
            int missing = 3 - figures;
            told.program.set(told.program.size, Program.codeOf(kind, 0, 0, 0) | operands << 2 * missing);
            return true;
        }
    }

    /** A program gone through, PLAIN and PIPED: what its registers have at last. */
    private static final class Flow {
        private final int[] plain = new int[REGISTERS];
        private final int[] piped = new int[REGISTERS];
        /** The latest instruction so far that makes a register. */
        private final int[] makers = new int[REGISTERS];
        private final int[] steps = new int[PROGRAM_LIMIT];
        private final int[] targets = new int[PROGRAM_LIMIT];
        private final int[] made = new int[PROGRAM_LIMIT];

        void goPlain(Program program, Terms terms) {
            for (int r = 0; r < REGISTERS; r++) {
                plain[r] = r;
            }
            for (int k = 0; k < program.size && k < PROGRAM_LIMIT; k++) {
                int code = program.codes[k];
                int kind = Program.kindOf(code);
                if (kind != 0) {
                    int one = plain[Program.firstOf(code)];
                    int other = plain[Program.secondOf(code)];
                    plain[Program.targetOf(code)] = terms.make(headOf(kind), one, other);
                }
            }
        }

        void goPiped(Program program, Pipe pipe, Terms terms) {
            for (int r = 0; r < REGISTERS; r++) {
                piped[r] = r;
                makers[r] = NO_MAKER;
            }
            int free = 0;
            for (int k = 0; k < program.size && k < PROGRAM_LIMIT; k++) {
                int code = program.codes[k];
                int kind = Program.kindOf(code);
                steps[k] = pipe.waits == 1 ? waitFrom(free, code, pipe) : free;
                free = steps[k] + 1;
                targets[k] = NO_TARGET;
                if (kind != 0) {
                    int one = readBy(k, Program.firstOf(code), pipe);
                    int other = readBy(k, Program.secondOf(code), pipe);
                    made[k] = terms.make(headOf(kind), one, other);
                    int target = Program.targetOf(code);
                    targets[k] = target;
                    makers[target] = k;
                    piped[target] = made[k];
                }
            }
        }

        private static int headOf(int kind) {
            return kind == 1 ? HEAD_F : HEAD_G;
        }

        /** Whatever stands ahead shows LAG steps behind the first free one at the latest. */
        private int waitFrom(int free, int code, Pipe pipe) {
            int step = free;
            while (step < free + LAG_LIMIT && !isReady(step, code, pipe)) {
                step++;
            }
            return step;
        }

        private boolean isReady(int step, int code, Pipe pipe) {
            int kind = Program.kindOf(code);
            return (kind < 1 || showsMaker(step, Program.firstOf(code), pipe))
                && (kind < 2 || showsMaker(step, Program.secondOf(code), pipe));
        }

        private boolean showsMaker(int step, int register, Pipe pipe) {
            int maker = register >= 0 && register < REGISTERS ? makers[register] : NO_MAKER;
            return maker < 0 || maker >= PROGRAM_LIMIT || pipe.shows(step - steps[maker]);
        }

        private int readBy(int k, int register, Pipe pipe) {
            for (int j = k - 1; j >= 0 && k < PROGRAM_LIMIT; j--) {
                if (targets[j] == register && pipe.shows(steps[k] - steps[j])) {
                    return made[j];
                }
            }
            return register;
        }

        int stepAt(int k) {
            return k >= 0 && k < PROGRAM_LIMIT ? steps[k] : 0;
        }

        int lastOf(int register, boolean throughPipe) {
            if (register < 0 || register >= REGISTERS) {
                return 0;
            }
            return throughPipe ? piped[register] : plain[register];
        }

        /** Registers (bits) that have PLAIN and PIPED two terms that are not one and the same. */
        int differing() {
            int bits = 0;
            for (int r = 0; r < REGISTERS; r++) {
                if (plain[r] != piped[r]) {
                    bits |= 1 << r;
                }
            }
            return bits;
        }
    }

    /** Which terms are SAME by some facts: those with one root. */
    private static final class Closure {
        private final int[] root = new int[TERM_LIMIT];
        /** Chains of the functions whose left parts have one root: a match is sought in its chain alone. */
        private final int[] chain = new int[TERM_LIMIT];
        private final int[] next = new int[TERM_LIMIT];
        private int size;

        void closeBy(Told told, int facts) {
            size = Math.min(told.terms.size, TERM_LIMIT);
            for (int i = 0; i < size && i < TERM_LIMIT; i++) {
                root[i] = i;
            }
            for (int fact = 0; fact < told.facts; fact++) {
                if (told.isAmong(facts, fact, true)) {
                    merge(told.firstOf(fact), told.secondOf(fact));
                }
            }
            spread(told.terms);
        }

        /** What follows if two are equal, beside the facts by which it was closed. */
        void assume(Told told, int one, int other) {
            merge(one, other);
            spread(told.terms);
        }

        boolean same(int one, int other) {
            int common = rootOf(one);
            return common != NO_TERM && common == rootOf(other);
        }

        boolean rulesOut(Told told, int facts) {
            for (int fact = 0; fact < told.facts; fact++) {
                if (told.isAmong(facts, fact, false) && same(told.firstOf(fact), told.secondOf(fact))) {
                    return true;
                }
            }
            return false;
        }

        private void merge(int one, int other) {
            int stays = rootOf(one);
            int goes = rootOf(other);
            boolean apart = stays != goes && stays != NO_TERM && goes != NO_TERM;
            for (int i = 0; i < size && i < TERM_LIMIT && apart; i++) {
                if (root[i] == goes) {
                    root[i] = stays;
                }
            }
        }

        /** Every pass but the last one merges two roots at least, so there are no more passes than terms. */
        private void spread(Terms terms) {
            boolean changed = true;
            for (int pass = 0; pass <= TERM_LIMIT && changed; pass++) {
                changed = spreadOnce(terms);
            }
        }

        private boolean spreadOnce(Terms terms) {
            boolean changed = false;
            Arrays.fill(chain, NO_TERM);
            for (int i = REGISTERS; i < size && i < TERM_LIMIT; i++) {
                int key = rootOf(terms.leftOf(i));
                if (key < 0 || key >= TERM_LIMIT) {
                    continue;
                }
                int match = findMatch(terms, i, chain[key]);
                if (match == NO_TERM) {
                    next[i] = chain[key];
                    chain[key] = i;
                } else if (rootOf(match) != root[i]) {
                    merge(match, i);
                    changed = true;
                }
            }
            return changed;
        }

        private int findMatch(Terms terms, int term, int start) {
            int top = terms.headOf(term);
            int right = rootOf(terms.rightOf(term));
            int at = start;
            for (int i = 0; i < size && at >= 0 && at < TERM_LIMIT; i++) {
                if (terms.headOf(at) == top && rootOf(terms.rightOf(at)) == right) {
                    return at;
                }
                at = next[at];
            }
            return NO_TERM;
        }

        private int rootOf(int term) {
            return term >= 0 && term < size && term < TERM_LIMIT ? root[term] : NO_TERM;
        }
    }

    /** The first shortest program by which a pipe is broken: its size, and below that its number (see writeProgram). */
    private static final class Breaker {
        private final Program program = new Program();
        private final Terms terms = new Terms(BREAKING_TERMS);
        private final Flow flow = new Flow();
        /** What was found for each pipe that does not wait, so that each is sought for once at most. */
        private final int[] found = new int[(LAG_LIMIT + 1) * (ALL_FORWARDS + 1)];

        Breaker() {
            Arrays.fill(found, NOT_SOUGHT);
        }

        /** NOT_BROKEN if there is no such program. */
        int programBy(Pipe pipe) {
            int place = pipe.lag * (ALL_FORWARDS + 1) + pipe.forwards;
            if (pipe.hidesNothing() || place < 0 || place >= found.length) {
                return NOT_BROKEN;
            }
            if (found[place] == NOT_SOUGHT) {
                found[place] = seek(pipe);
            }
            return found[place];
        }

        private int seek(Pipe pipe) {
            for (int size = 1; size <= BREAKING_LIMIT; size++) {
                int programs = 1 << 3 * size;
                for (int number = 0; number < programs; number++) {
                    writeProgram(size, number);
                    terms.dropPassing();
                    flow.goPlain(program, terms);
                    flow.goPiped(program, pipe, terms);
                    if (flow.differing() != 0) {
                        return size << 3 * BREAKING_LIMIT | number;
                    }
                }
            }
            return NOT_BROKEN;
        }

        /** The number's octal figures are the instructions, so that lower numbers are earlier programs. */
        private void writeProgram(int size, int number) {
            program.forgetAll();
            for (int k = 0; k < size; k++) {
                int one = figureAt(size, number, k);
                program.set(k, Program.codeOf(2, one >> 2 & 1, one >> 1 & 1, one & 1));
            }
        }

        private static int figureAt(int size, int number, int k) {
            return number >> 3 * (size - 1 - k) & 7;
        }

        static int sizeOf(int breaking) {
            return breaking >> 3 * BREAKING_LIMIT;
        }

        static int numberAt(int breaking, int k) {
            return figureAt(sizeOf(breaking), breaking, k);
        }
    }

    private final Reader reader = new Reader();
    private final Setting now = new Setting();
    private final History history = new History();
    private final Setting[] images = new Setting[IMAGES];
    private final boolean[] kept = new boolean[IMAGES];
    private final Flow flow = new Flow();
    private final Closure closure = new Closure();
    private final Breaker breaker = new Breaker();
    private final Pipe trial = new Pipe();
    private Told told = new Told();
    private Told spare = new Told();
    private int seen;
    private int possible;

    public FlushedPipes() {
        for (int i = 0; i < IMAGES; i++) {
            images[i] = new Setting();
        }
        startAsTold();
    }

    private void startAsTold() {
        now.startAs(told);
        history.forgetAll();
        forgetSeen();
        for (int i = 0; i < IMAGES; i++) {
            kept[i] = false;
        }
    }

    private void forgetSeen() {
        seen = 0;
        possible = (1 << ALL_FORWARDS + 1) - 1;
    }

    public int type(int letter) {
        if (letter < 0 || letter > 255) {
            return BAD;
        }
        if (reader.isFull()) {
            return FULL;
        }
        reader.append(letter);
        return reader.size;
    }

    public int clear() {
        int had = reader.size;
        reader.size = 0;
        return had;
    }

    public int machine() {
        int items = reader.readAll(spare);
        if (items < 0) {
            return items;
        }
        Told old = told;
        told = spare;
        spare = old;
        reader.size = 0;
        startAsTold();
        return items;
    }

    public int instruction(int k, int what) {
        if (!now.program.has(k)) {
            return BAD;
        }
        int code = now.program.codeAt(k);
        switch (what) {
            case 0:
                return Program.kindOf(code);
            case 1:
                return Program.targetOf(code);
            case 2:
                return Program.firstOf(code);
            case 3:
                return Program.secondOf(code);
            default:
                return BAD;
        }
    }

    public int puts(int k, int kind, int d, int s, int t) {
        if (k < 0 || k > now.program.size || !isInstruction(kind, d, s, t)) {
            return BAD;
        }
        int code = Program.codeOf(kind, d, s, t);
        if (now.program.codeAt(k) == code) {
            return STATE;
        }
        if (k >= PROGRAM_LIMIT) {
            return FULL;
        }
        history.remember(now);
        now.program.set(k, code);
        return now.program.size;
    }

    private static boolean isInstruction(int kind, int d, int s, int t) {
        if (kind < 0 || kind > 2 || !isRegister(d) || !isRegister(s) || !isRegister(t)) {
            return false;
        }
        return kind == 2 || t == 0 && (kind == 1 || d == 0 && s == 0);
    }

    private static boolean isRegister(int r) {
        return r >= 0 && r < REGISTERS;
    }

    public int leaves(int fact) {
        if (!told.has(fact)) {
            return BAD;
        }
        history.remember(now);
        now.factsIn ^= 1 << fact;
        return now.factsIn >> fact & 1;
    }

    public int tells(int lag, int forwards, int waits) {
        if (lag < 0 || lag > LAG_LIMIT || forwards < 0 || forwards > ALL_FORWARDS || waits < 0 || waits > 1) {
            return BAD;
        }
        if (now.pipe.is(lag, forwards, waits)) {
            return STATE;
        }
        history.remember(now);
        now.pipe.set(lag, forwards, waits);
        return 1;
    }

    public int undo() {
        if (history.size <= 0) {
            return STATE;
        }
        history.restoreLatest(now);
        return history.size;
    }

    public int fact(int fact) {
        if (!told.has(fact)) {
            return BAD;
        }
        told.terms.dropPassing();
        return judge(told.firstOf(fact), told.secondOf(fact));
    }

    /** EQUAL of two terms by the facts that are in. */
    private int judge(int one, int other) {
        closure.closeBy(told, now.factsIn);
        if (closure.same(one, other) || closure.rulesOut(told, now.factsIn)) {
            return 1;
        }
        closure.assume(told, one, other);
        return closure.rulesOut(told, now.factsIn) ? 2 : 0;
    }

    public int ruled() {
        told.terms.dropPassing();
        closure.closeBy(told, now.factsIn);
        return closure.rulesOut(told, now.factsIn) ? 1 : 0;
    }

    public int equal(int r, int s, int way) {
        if (!isRegister(r) || !isRegister(s) || way < 0 || way > 2) {
            return BAD;
        }
        goThrough(now.pipe);
        return judge(flow.lastOf(r, way == 1), flow.lastOf(s, way != 0));
    }

    private void goThrough(Pipe pipe) {
        told.terms.dropPassing();
        flow.goPlain(now.program, told.terms);
        flow.goPiped(now.program, pipe, told.terms);
    }

    public int deep(int r, int way) {
        if (!isRegister(r) || way < 0 || way > 1) {
            return BAD;
        }
        goThrough(now.pipe);
        return told.terms.depthOf(flow.lastOf(r, way == 1));
    }

    public int term(int r, int way, int k) {
        if (!isRegister(r) || way < 0 || way > 1 || k < 0) {
            return BAD;
        }
        goThrough(now.pipe);
        return told.terms.letterOf(flow.lastOf(r, way == 1), k);
    }

    public int step(int k) {
        if (!now.program.has(k)) {
            return BAD;
        }
        goThrough(now.pipe);
        return flow.stepAt(k);
    }

    public int length() {
        if (now.program.size == 0) {
            return 0;
        }
        goThrough(now.pipe);
        return flow.stepAt(now.program.size - 1) + 1 + now.pipe.lag;
    }

    public int wrong() {
        goThrough(now.pipe);
        return wrongBy(now.factsIn);
    }

    /** WRONG by facts, of the program as it was gone through last. */
    private int wrongBy(int facts) {
        int differing = flow.differing();
        if (differing == 0) {
            return 0;
        }
        closure.closeBy(told, facts);
        if (closure.rulesOut(told, facts)) {
            return 0;
        }
        int bits = 0;
        for (int r = 0; r < REGISTERS; r++) {
            if ((differing >> r & 1) == 1 && !closure.same(flow.lastOf(r, false), flow.lastOf(r, true))) {
                bits |= 1 << r;
            }
        }
        return bits;
    }

    public int needed() {
        for (int forwards : FORWARDS_BY_BITS) {
            trial.set(now.pipe.lag, forwards, 0);
            goThrough(trial);
            if (wrongBy(now.factsIn) == 0) {
                return forwards;
            }
        }
        return NONE;
    }

    public int fewest() {
        goThrough(now.pipe);
        // More facts never make less equal: what all of them do not do, fewer do not either.
        if (wrongBy(now.factsIn) != 0) {
            return NONE;
        }
        for (int bits = 0; bits <= told.facts; bits++) {
            for (int facts = 0; facts <= now.factsIn; facts++) {
                boolean fits = Integer.bitCount(facts) == bits && (facts & ~now.factsIn) == 0;
                if (fits && wrongBy(facts) == 0) {
                    return facts;
                }
            }
        }
        return NONE;
    }

    public int broken(int k) {
        if (k < -1) {
            return BAD;
        }
        int breaking = breaker.programBy(now.pipe);
        int size = Breaker.sizeOf(breaking);
        if (size == 0 || k >= size) {
            return NONE;
        }
        return k == -1 ? size : Breaker.numberAt(breaking, k);
    }

    public int sees(int wrong) {
        if (wrong < 0 || wrong > ALL_WRONG) {
            return BAD;
        }
        if (seen >= SEEN_LIMIT) {
            return FULL;
        }
        seen++;
        possible &= forwardsBy(wrong);
        return seen;
    }

    /** FORWARDS (bits) by which the program, without facts, has these wrong: told at once, for it may change later. */
    private int forwardsBy(int wrong) {
        int bits = 0;
        for (int forwards = 0; forwards <= ALL_FORWARDS; forwards++) {
            trial.set(now.pipe.lag, forwards, 0);
            goThrough(trial);
            if (flow.differing() == wrong) {
                bits |= 1 << forwards;
            }
        }
        return bits;
    }

    public int forget() {
        int had = seen;
        forgetSeen();
        return had;
    }

    public int unseen() {
        return possible;
    }

    public int keep(int image) {
        if (image < 0 || image >= IMAGES) {
            return BAD;
        }
        images[image].copyFrom(now);
        kept[image] = true;
        return now.program.size;
    }

    public int back(int image) {
        if (image < 0 || image >= IMAGES) {
            return BAD;
        }
        if (!kept[image]) {
            return STATE;
        }
        now.copyFrom(images[image]);
        history.forgetAll();
        return now.program.size;
    }

    public int count(int what) {
        switch (what) {
            case 0:
                return told.facts;
            case 1:
                return now.factsIn;
            case 2:
                return now.program.size;
            case 3:
                return now.pipe.lag;
            case 4:
                return now.pipe.forwards;
            case 5:
                return now.pipe.waits;
            case 6:
                return seen;
            case 7:
                return reader.size;
            case 8:
                return history.size;
            default:
                return BAD;
        }
    }
}
