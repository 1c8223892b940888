import java.util.ArrayDeque;
import java.util.ArrayList;
import java.util.Arrays;
import java.util.Deque;
import java.util.List;
import java.util.TreeSet;

/**
 * The document once more, by other means than the class: terms are texts, facts are closed by going over all pairs,
 * nothing is kept that can be worked out anew.
 */
final class Oracle {
    static final int BAD = -1, STATE = -2, FULL = -3, NONE = -9;

    record Fact(boolean alike, String one, String other) {
    }

    record Instruction(int kind, int d, int s, int t) {
        boolean makes(int r) {
            return kind != 0 && d == r;
        }

        int[] reads() {
            return kind == 0 ? new int[0] : kind == 1 ? new int[] {s} : new int[] {s, t};
        }
    }

    record Pipe(int lag, int forwards, int waits) {
        boolean visible(int distance) {
            List<Integer> forwarded = new ArrayList<>();
            for (int bit = 0; bit < 3; bit++) {
                if ((forwards & 1 << bit) != 0) {
                    forwarded.add(bit + 1);
                }
            }
            return distance > lag || forwarded.contains(distance);
        }
    }

    record Setting(List<Instruction> program, int in, Pipe pipe) {
    }

    record Seen(List<Instruction> program, int lag, int wrong) {
    }

    private static final Pipe FIRST_PIPE = new Pipe(2, 0, 0);
    private StringBuilder text = new StringBuilder();
    private List<Fact> facts = List.of();
    private Setting now = new Setting(List.of(), 0, FIRST_PIPE);
    private final List<Setting> past = new ArrayList<>();
    private final List<Seen> seen = new ArrayList<>();
    private final Setting[] images = new Setting[2];

    int type(int letter) {
        if (letter < 0 || letter > 255) {
            return BAD;
        }
        if (text.length() == 100) {
            return FULL;
        }
        text.append((char) letter);
        return text.length();
    }

    int clear() {
        int had = text.length();
        text = new StringBuilder();
        return had;
    }

    /** A stack of what must still come: ; of an item, R a register, and a term at level 0 to 4. */
    private int fault(String s) {
        Deque<Character> due = new ArrayDeque<>();
        int factsSoFar = 0;
        int instructionsSoFar = 0;
        for (int i = 0; i < s.length(); i++) {
            char c = s.charAt(i);
            if (c == ' ') {
                continue;
            }
            if (due.isEmpty()) {
                String rest = c == '=' || c == '!' ? "00;" : c == 'n' ? ";" : c == 'u' ? "RR;" : c == 'o' ? "RRR;" : null;
                if (rest == null) {
                    return i;
                }
                boolean isFact = rest.startsWith("0");
                factsSoFar += isFact ? 1 : 0;
                instructionsSoFar += isFact ? 0 : 1;
                if (factsSoFar > 6 || instructionsSoFar > 6) {
                    return i;
                }
                for (char r : rest.toCharArray()) {
                    due.addLast(r);
                }
                continue;
            }
            char want = due.removeFirst();
            if (want == ';' || want == 'R') {
                if (want == ';' ? c != ';' : "0123".indexOf(c) < 0) {
                    return i;
                }
                continue;
            }
            if ("abcd".indexOf(c) >= 0) {
                continue;
            }
            if (c != 'f' && c != 'g' || want == '4') {
                return i;
            }
            for (int parts = 0; parts < (c == 'f' ? 1 : 2); parts++) {
                due.addFirst((char) (want + 1));
            }
        }
        return due.isEmpty() ? -1 : s.length();
    }

    private static int termEnd(String s, int from) {
        int open = 1;
        int at = from;
        while (open > 0) {
            open += s.charAt(at) == 'g' ? 1 : s.charAt(at) == 'f' ? 0 : -1;
            at++;
        }
        return at;
    }

    int machine() {
        int fault = fault(text.toString());
        if (fault >= 0) {
            return -10 - fault;
        }
        List<Fact> newFacts = new ArrayList<>();
        List<Instruction> newProgram = new ArrayList<>();
        String plain = text.toString().replace(" ", "");
        int items = 0;
        for (String item : plain.isEmpty() ? new String[0] : plain.split(";")) {
            items++;
            char c = item.charAt(0);
            if (c == '=' || c == '!') {
                int middle = termEnd(item, 1);
                newFacts.add(new Fact(c == '=', item.substring(1, middle), item.substring(middle)));
            } else {
                String figures = item.substring(1) + "000";
                newProgram.add(new Instruction("nuo".indexOf(c), figures.charAt(0) - '0', figures.charAt(1) - '0',
                    figures.charAt(2) - '0'));
            }
        }
        facts = newFacts;
        now = new Setting(newProgram, (1 << facts.size()) - 1, FIRST_PIPE);
        past.clear();
        seen.clear();
        Arrays.fill(images, null);
        text = new StringBuilder();
        return items;
    }

    int instruction(int k, int what) {
        if (k < 0 || k >= now.program.size() || what < 0 || what > 3) {
            return BAD;
        }
        Instruction i = now.program.get(k);
        return new int[] {i.kind, i.d, i.s, i.t}[what];
    }

    private void become(Setting next) {
        past.add(now);
        if (past.size() > 10) {
            past.remove(0);
        }
        now = next;
    }

    int puts(int k, int kind, int d, int s, int t) {
        int[] registers = {d, s, t};
        int has = kind == 0 ? 0 : kind == 1 ? 2 : 3;
        boolean bad = k < 0 || k > now.program.size() || kind < 0 || kind > 2;
        for (int i = 0; i < 3; i++) {
            bad |= registers[i] < 0 || registers[i] > 3 || i >= has && registers[i] != 0;
        }
        if (bad) {
            return BAD;
        }
        Instruction put = new Instruction(kind, d, s, t);
        if (k < now.program.size() && now.program.get(k).equals(put)) {
            return STATE;
        }
        if (k == 6) {
            return FULL;
        }
        List<Instruction> next = new ArrayList<>(now.program);
        if (k == next.size()) {
            next.add(put);
        } else {
            next.set(k, put);
        }
        become(new Setting(next, now.in, now.pipe));
        return next.size();
    }

    int leaves(int fact) {
        if (fact < 0 || fact >= facts.size()) {
            return BAD;
        }
        become(new Setting(now.program, now.in ^ 1 << fact, now.pipe));
        return (now.in & 1 << fact) == 0 ? 0 : 1;
    }

    int tells(int lag, int forwards, int waits) {
        if (lag < 0 || lag > 3 || forwards < 0 || forwards > 7 || waits < 0 || waits > 1) {
            return BAD;
        }
        Pipe next = new Pipe(lag, forwards, waits);
        if (now.pipe.equals(next)) {
            return STATE;
        }
        become(new Setting(now.program, now.in, next));
        return 1;
    }

    int undo() {
        if (past.isEmpty()) {
            return STATE;
        }
        now = past.remove(past.size() - 1);
        return past.size();
    }

    private static void collect(String term, TreeSet<String> all) {
        all.add(term);
        if (term.length() > 1) {
            int middle = termEnd(term, 1);
            collect(term.substring(1, middle), all);
            if (middle < term.length()) {
                collect(term.substring(middle), all);
            }
        }
    }

    private List<Fact> factsOf(int bits) {
        List<Fact> some = new ArrayList<>();
        for (int i = 0; i < facts.size(); i++) {
            if ((bits & 1 << i) != 0) {
                some.add(facts.get(i));
            }
        }
        return some;
    }

    /** Whether two terms are SAME by facts: all pairs are gone over until nothing new follows. */
    private static boolean[] sames(List<Fact> by, List<String[]> asked) {
        TreeSet<String> all = new TreeSet<>();
        for (Fact f : by) {
            collect(f.one, all);
            collect(f.other, all);
        }
        for (String[] pair : asked) {
            collect(pair[0], all);
            collect(pair[1], all);
        }
        List<String> terms = new ArrayList<>(all);
        int n = terms.size();
        boolean[][] same = new boolean[n][n];
        for (int i = 0; i < n; i++) {
            same[i][i] = true;
        }
        for (Fact f : by) {
            if (f.alike) {
                int i = terms.indexOf(f.one);
                int j = terms.indexOf(f.other);
                same[i][j] = true;
                same[j][i] = true;
            }
        }
        int[][] parts = partsOf(terms);
        boolean changed = true;
        while (changed) {
            changed = false;
            for (int m = 0; m < n; m++) {
                for (int i = 0; i < n; i++) {
                    for (int j = 0; same[i][m] && j < n; j++) {
                        if (same[m][j] && !same[i][j]) {
                            same[i][j] = true;
                            changed = true;
                        }
                    }
                }
            }
            for (int i = 0; i < n; i++) {
                for (int j = 0; j < n; j++) {
                    if (!same[i][j] && parts[i].length > 0 && parts[i].length == parts[j].length) {
                        boolean all2 = true;
                        for (int p = 0; p < parts[i].length; p++) {
                            all2 &= same[parts[i][p]][parts[j][p]];
                        }
                        same[i][j] = all2;
                        changed |= all2;
                    }
                }
            }
        }
        boolean[] answer = new boolean[asked.size()];
        for (int i = 0; i < answer.length; i++) {
            answer[i] = same[terms.indexOf(asked.get(i)[0])][terms.indexOf(asked.get(i)[1])];
        }
        return answer;
    }

    private static int[][] partsOf(List<String> terms) {
        int[][] parts = new int[terms.size()][];
        for (int i = 0; i < parts.length; i++) {
            String term = terms.get(i);
            if (term.length() == 1) {
                parts[i] = new int[0];
                continue;
            }
            int middle = termEnd(term, 1);
            int first = terms.indexOf(term.substring(1, middle));
            parts[i] = term.charAt(0) == 'f' ? new int[] {first}
                : new int[] {first, terms.indexOf(term.substring(middle))};
        }
        return parts;
    }

    private static boolean ruledOut(List<Fact> by) {
        List<String[]> asked = new ArrayList<>();
        for (Fact f : by) {
            if (!f.alike) {
                asked.add(new String[] {f.one, f.other});
            }
        }
        for (boolean same : sames(by, asked)) {
            if (same) {
                return true;
            }
        }
        return false;
    }

    private static int equalBy(String one, String other, List<Fact> by) {
        if (sames(by, List.<String[]>of(new String[] {one, other}))[0] || ruledOut(by)) {
            return 1;
        }
        List<Fact> more = new ArrayList<>(by);
        more.add(new Fact(true, one, other));
        return ruledOut(more) ? 2 : 0;
    }

    int fact(int fact) {
        if (fact < 0 || fact >= facts.size()) {
            return BAD;
        }
        return equalBy(facts.get(fact).one, facts.get(fact).other, factsOf(now.in));
    }

    int ruled() {
        return ruledOut(factsOf(now.in)) ? 1 : 0;
    }

    private static String first(int r) {
        return "abcd".substring(r, r + 1);
    }

    private static String made(Instruction i, String one, String other) {
        return i.kind == 1 ? "f" + one : "g" + one + other;
    }

    private static String[] plain(List<Instruction> program) {
        String[] registers = {"a", "b", "c", "d"};
        for (Instruction i : program) {
            if (i.kind != 0) {
                registers[i.d] = made(i, registers[i.s], registers[i.t]);
            }
        }
        return registers;
    }

    private static int latest(List<Instruction> program, int ahead, int r) {
        int latest = -1;
        for (int j = 0; j < ahead; j++) {
            latest = program.get(j).makes(r) ? j : latest;
        }
        return latest;
    }

    private static int[] steps(List<Instruction> program, Pipe pipe) {
        int[] steps = new int[program.size()];
        for (int k = 1; k < steps.length; k++) {
            steps[k] = steps[k - 1] + 1;
            boolean ready = pipe.waits == 0;
            while (!ready) {
                ready = true;
                for (int r : program.get(k).reads()) {
                    int j = latest(program, k, r);
                    ready &= j < 0 || pipe.visible(steps[k] - steps[j]);
                }
                steps[k] += ready ? 0 : 1;
            }
        }
        return steps;
    }

    private static String[] piped(List<Instruction> program, Pipe pipe) {
        int[] steps = steps(program, pipe);
        String[] results = new String[program.size()];
        for (int k = 0; k < results.length; k++) {
            Instruction i = program.get(k);
            String[] read = {first(i.s), first(i.t)};
            for (int j = 0; j < k; j++) {
                if (pipe.visible(steps[k] - steps[j])) {
                    read[0] = program.get(j).makes(i.s) ? results[j] : read[0];
                    read[1] = program.get(j).makes(i.t) ? results[j] : read[1];
                }
            }
            results[k] = made(i, read[0], read[1]);
        }
        String[] registers = new String[4];
        for (int r = 0; r < 4; r++) {
            int j = latest(program, results.length, r);
            registers[r] = j < 0 ? first(r) : results[j];
        }
        return registers;
    }

    private String last(int r, boolean throughPipe) {
        return throughPipe ? piped(now.program, now.pipe)[r] : plain(now.program)[r];
    }

    private static boolean isRegister(int r) {
        return r >= 0 && r <= 3;
    }

    int equal(int r, int s, int way) {
        if (!isRegister(r) || !isRegister(s) || way < 0 || way > 2) {
            return BAD;
        }
        return equalBy(last(r, way == 1), last(s, way == 1 || way == 2), factsOf(now.in));
    }

    private static int depth(String term) {
        if (term.length() == 1) {
            return 0;
        }
        int middle = termEnd(term, 1);
        int first = depth(term.substring(1, middle));
        return 1 + (middle == term.length() ? first : Math.max(first, depth(term.substring(middle))));
    }

    int deep(int r, int way) {
        return !isRegister(r) || way < 0 || way > 1 ? BAD : depth(last(r, way == 1));
    }

    int term(int r, int way, int k) {
        if (!isRegister(r) || way < 0 || way > 1 || k < 0) {
            return BAD;
        }
        String term = last(r, way == 1);
        return k < term.length() ? term.charAt(k) : NONE;
    }

    int step(int k) {
        return k < 0 || k >= now.program.size() ? BAD : steps(now.program, now.pipe)[k];
    }

    int length() {
        int n = now.program.size();
        return n == 0 ? 0 : steps(now.program, now.pipe)[n - 1] + 1 + now.pipe.lag;
    }

    private static int wrongBy(List<Instruction> program, Pipe pipe, List<Fact> by) {
        String[] should = plain(program);
        String[] is = piped(program, pipe);
        boolean ruled = ruledOut(by);
        int bits = 0;
        for (int r = 0; r < 4; r++) {
            if (!ruled && !sames(by, List.<String[]>of(new String[] {should[r], is[r]}))[0]) {
                bits |= 1 << r;
            }
        }
        return bits;
    }

    private static int unlike(List<Instruction> program, Pipe pipe) {
        String[] should = plain(program);
        String[] is = piped(program, pipe);
        int bits = 0;
        for (int r = 0; r < 4; r++) {
            bits |= should[r].equals(is[r]) ? 0 : 1 << r;
        }
        return bits;
    }

    int wrong() {
        return wrongBy(now.program, now.pipe, factsOf(now.in));
    }

    int needed() {
        int best = NONE;
        for (int forwards = 0; forwards < 8; forwards++) {
            boolean fewer = best == NONE || Integer.bitCount(forwards) < Integer.bitCount(best);
            if (fewer && wrongBy(now.program, new Pipe(now.pipe.lag, forwards, 0), factsOf(now.in)) == 0) {
                best = forwards;
            }
        }
        return best;
    }

    int fewest() {
        int best = NONE;
        for (int bits = 0; bits < 64; bits++) {
            boolean fewer = best == NONE || Integer.bitCount(bits) < Integer.bitCount(best);
            if ((bits | now.in) == now.in && fewer && wrongBy(now.program, now.pipe, factsOf(bits)) == 0) {
                best = bits;
            }
        }
        return best;
    }

    private static boolean seek(List<Instruction> program, int size, Pipe pipe) {
        if (program.size() == size) {
            return unlike(program, pipe) != 0;
        }
        for (int number = 0; number < 8; number++) {
            program.add(new Instruction(2, number / 4, number / 2 % 2, number % 2));
            if (seek(program, size, pipe)) {
                return true;
            }
            program.remove(program.size() - 1);
        }
        return false;
    }

    int broken(int k) {
        if (k < -1) {
            return BAD;
        }
        for (int size = 1; size <= 4; size++) {
            List<Instruction> program = new ArrayList<>();
            if (seek(program, size, now.pipe)) {
                if (k == -1 || k >= size) {
                    return k == -1 ? size : NONE;
                }
                Instruction i = program.get(k);
                return 4 * i.d + 2 * i.s + i.t;
            }
        }
        return NONE;
    }

    int sees(int wrong) {
        if (wrong < 0 || wrong > 15) {
            return BAD;
        }
        if (seen.size() == 4) {
            return FULL;
        }
        seen.add(new Seen(now.program, now.pipe.lag, wrong));
        return seen.size();
    }

    int forget() {
        int had = seen.size();
        seen.clear();
        return had;
    }

    int unseen() {
        int bits = 0;
        for (int forwards = 0; forwards < 8; forwards++) {
            boolean fits = true;
            for (Seen s : seen) {
                fits &= unlike(s.program, new Pipe(s.lag, forwards, 0)) == s.wrong;
            }
            bits |= fits ? 1 << forwards : 0;
        }
        return bits;
    }

    int keep(int image) {
        if (image < 0 || image > 1) {
            return BAD;
        }
        images[image] = now;
        return now.program.size();
    }

    int back(int image) {
        if (image < 0 || image > 1) {
            return BAD;
        }
        if (images[image] == null) {
            return STATE;
        }
        now = images[image];
        past.clear();
        return now.program.size();
    }

    int count(int what) {
        switch (what) {
            case 0: return facts.size();
            case 1: return now.in;
            case 2: return now.program.size();
            case 3: return now.pipe.lag;
            case 4: return now.pipe.forwards;
            case 5: return now.pipe.waits;
            case 6: return seen.size();
            case 7: return text.length();
            case 8: return past.size();
            default: return BAD;
        }
    }
}
