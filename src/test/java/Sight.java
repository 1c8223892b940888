import java.util.ArrayList;
import java.util.Arrays;
import java.util.List;

/**
 * What an object shows of each part of its state. A sight is taken of an object made for it alone, as some of them use
 * up what they look at, and so that no object is used for more than 512 calls.
 */
enum Sight {
    /** The program, which facts are in, the pipe, and all that follows from these. */
    NOW,
    /** How many letters the text has, and what it tells. */
    TEXT,
    SEEN,
    IMAGES,
    /** The counts, undone one after the other. */
    UNDONE,
    /** The programs, undone one after the other. */
    UNDONE_PROGRAMS;

    interface Making {
        FlushedPipes make();
    }

    interface Call {
        int on(FlushedPipes x);
    }

    /** What it shows behind a call, of which only what it leaves behind matters here. */
    List<Integer> of(Making making, Call call) {
        FlushedPipes x = making.make();
        call.on(x);
        List<Integer> shown = new ArrayList<>();
        switch (this) {
            case NOW:
                now(x, shown);
                break;
            case TEXT:
                text(x, shown);
                break;
            case SEEN:
                shown.addAll(List.of(x.count(6), x.unseen(), x.forget(), x.count(6), x.unseen(), x.forget()));
                break;
            case IMAGES:
                images(x, shown);
                break;
            case UNDONE:
                undone(x, shown);
                break;
            default:
                undonePrograms(x, shown);
        }
        return shown;
    }

    /** The parts of a state that a call changed. */
    static List<Sight> changedBy(Making making, Call call) {
        List<Sight> changed = new ArrayList<>();
        for (Sight sight : values()) {
            if (!sight.of(making, call).equals(sight.of(making, x -> 0))) {
                changed.add(sight);
            }
        }
        return changed;
    }

    static void dueUnchanged(String name, Making making, Call call) {
        List<Sight> changed = changedBy(making, call);
        Check.due(name + " changed " + changed, changed.size(), 0);
    }

    /** Nothing but these parts may change, and the first of them must. */
    static void dueOnly(String name, Making making, Call call, Sight first, Sight... others) {
        List<Sight> changed = changedBy(making, call);
        Check.due(name + " changes " + first, changed.contains(first) ? 1 : 0, 1);
        changed.remove(first);
        changed.removeAll(Arrays.asList(others));
        Check.due(name + " changed " + changed, changed.size(), 0);
    }

    /** Two objects show the same in all parts. */
    static void dueAlike(String name, Making one, Making other) {
        for (Sight sight : values()) {
            boolean alike = sight.of(one, x -> 0).equals(sight.of(other, x -> 0));
            Check.due(name + " is alike in " + sight, alike ? 1 : 0, 1);
        }
    }

    private static void counts(FlushedPipes x, List<Integer> shown) {
        for (int what = 0; what <= 5; what++) {
            shown.add(x.count(what));
        }
    }

    private static void program(FlushedPipes x, List<Integer> shown) {
        int size = x.count(2);
        shown.add(size);
        for (int k = 0; k < size; k++) {
            for (int what = 0; what <= 3; what++) {
                shown.add(x.instruction(k, what));
            }
        }
    }

    private static void facts(FlushedPipes x, List<Integer> shown) {
        for (int fact = 0; fact <= 6; fact++) {
            shown.add(x.fact(fact));
        }
        shown.add(x.ruled());
    }

    private static void now(FlushedPipes x, List<Integer> shown) {
        counts(x, shown);
        program(x, shown);
        facts(x, shown);
        for (int r = 0; r < 4; r++) {
            for (int s = 0; s < 4; s++) {
                for (int way = 0; way <= 2; way++) {
                    shown.add(x.equal(r, s, way));
                }
            }
            for (int way = 0; way <= 1; way++) {
                shown.add(x.deep(r, way));
                for (int k = 0; k < 8; k++) {
                    shown.add(x.term(r, way, k));
                }
            }
        }
        for (int k = 0; k <= 6; k++) {
            shown.add(x.step(k));
        }
        for (int k = -1; k <= 4; k++) {
            shown.add(x.broken(k));
        }
        shown.addAll(List.of(x.length(), x.wrong(), x.needed(), x.fewest()));
    }

    private static void text(FlushedPipes x, List<Integer> shown) {
        shown.add(x.count(7));
        int items = x.machine();
        shown.add(items);
        if (items >= 0) {
            counts(x, shown);
            program(x, shown);
            facts(x, shown);
        }
        shown.add(x.clear());
    }

    private static void images(FlushedPipes x, List<Integer> shown) {
        for (int image = 0; image <= 1; image++) {
            int answer = x.back(image);
            shown.add(answer);
            if (answer >= 0) {
                counts(x, shown);
                program(x, shown);
            }
        }
    }

    private static void undone(FlushedPipes x, List<Integer> shown) {
        for (int i = 0; i <= 10; i++) {
            shown.add(x.count(8));
            shown.add(x.undo());
            counts(x, shown);
        }
    }

    private static void undonePrograms(FlushedPipes x, List<Integer> shown) {
        for (int i = 0; i <= 10; i++) {
            shown.add(x.undo());
            program(x, shown);
        }
    }
}
