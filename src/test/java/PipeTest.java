/** Promises 13 to 23: the pipe, and which forwards it has. */
public final class PipeTest {
    public static void main(String[] args) {
        deepAndTerm();
        largestTerm();
        visible();
        stepAndLength();
        waitsByForwards();
        wrong();
        needed();
        neededOrder();
        fewest();
        fewestOrder();
        broken();
        sees();
        unseen();
        Check.end();
    }

    private static void deepAndTerm() {
        Check.topic("13, 14 deep and term");
        FlushedPipes x = Check.told("u12;o012;o330;");
        Check.due("deep(0, 0)", x.deep(0, 0), 2);
        Check.due("deep(0, 1)", x.deep(0, 1), 1);
        Check.due("deep(1, 0)", x.deep(1, 0), 1);
        Check.due("deep(2, 1)", x.deep(2, 1), 0);
        Check.due("deep(3, 0)", x.deep(3, 0), 3);
        Check.due("deep(3, 1)", x.deep(3, 1), 1);
        Check.dueTerm(x, 0, 0, "gfcc");
        Check.dueTerm(x, 0, 1, "gbc");
        Check.dueTerm(x, 1, 0, "fc");
        Check.dueTerm(x, 1, 1, "fc");
        Check.dueTerm(x, 2, 0, "c");
        Check.dueTerm(x, 3, 0, "gdgfcc");
        Check.dueTerm(x, 3, 1, "gda");
        int[][] bad = {{-1, 0}, {4, 0}, {0, -1}, {0, 2}, {Integer.MAX_VALUE, 0}, {0, Integer.MIN_VALUE}};
        for (int[] b : bad) {
            Check.due("deep" + java.util.Arrays.toString(b), x.deep(b[0], b[1]), Check.BAD);
            Check.due("term" + java.util.Arrays.toString(b), x.term(b[0], b[1], 0), Check.BAD);
        }
        Check.due("term(0, 0, -1)", x.term(0, 0, -1), Check.BAD);
        Check.due("term(0, 0, min)", x.term(0, 0, Integer.MIN_VALUE), Check.BAD);
        Check.due("term(0, 0, max)", x.term(0, 0, Integer.MAX_VALUE), Check.NONE);
    }

    private static void largestTerm() {
        Check.topic("14 the largest term");
        FlushedPipes x = Check.told("o000;o000;o000;o000;o000;o000;");
        StringBuilder want = new StringBuilder("a");
        for (int i = 0; i < 6; i++) {
            String half = want.toString();
            want = new StringBuilder("g" + half + half);
        }
        Check.due("its letters", want.length(), 127);
        Check.dueTerm(x, 0, 0, want.toString());
        Check.due("deep(0, 0)", x.deep(0, 0), 6);
        Check.due("deep(0, 1)", x.deep(0, 1), 2);
        Check.dueTerm(x, 0, 1, "ggaagaa");
    }

    private static void visible() {
        Check.topic("14 what is visible");
        FlushedPipes x = Check.told("u00;n;o011;u20;");
        x.tells(2, 0, 0);
        Check.dueTerm(x, 2, 1, "ffa");
        x.tells(3, 0, 0);
        Check.dueTerm(x, 2, 1, "fa");
        x.tells(3, 1, 0);
        Check.dueTerm(x, 2, 1, "fgbb");
        x.tells(3, 4, 0);
        Check.dueTerm(x, 2, 1, "ffa");
        x.tells(3, 2, 0);
        Check.dueTerm(x, 2, 1, "fa");
        x.tells(0, 0, 0);
        Check.dueTerm(x, 2, 1, "fgbb");
        x.tells(3, 0, 1);
        Check.dueTerm(x, 2, 1, "fgbb");
    }

    private static void stepAndLength() {
        Check.topic("15, 16 step and length");
        FlushedPipes x = Check.told("u00;u11;o201;n;u32;u33;");
        for (int k = 0; k < 6; k++) {
            Check.due("step(" + k + ")", x.step(k), k);
        }
        Check.due("length()", x.length(), 8);
        Check.due("step(6)", x.step(6), Check.BAD);
        Check.due("step(-1)", x.step(-1), Check.BAD);
        Check.due("step(max)", x.step(Integer.MAX_VALUE), Check.BAD);
        Check.due("step(min)", x.step(Integer.MIN_VALUE), Check.BAD);
        x.tells(2, 0, 1);
        int[] late = {0, 1, 4, 5, 7, 10};
        for (int k = 0; k < 6; k++) {
            Check.due("step(" + k + ")", x.step(k), late[k]);
        }
        Check.due("length()", x.length(), 13);
        x.tells(0, 0, 1);
        Check.due("step(5)", x.step(5), 5);
        Check.due("length()", x.length(), 6);
        FlushedPipes none = new FlushedPipes();
        none.tells(3, 0, 1);
        Check.due("length() without instructions", none.length(), 0);
        none.puts(0, 0, 0, 0, 0);
        Check.due("length()", none.length(), 4);
    }

    /** The two registers read must show at one and the same step. */
    private static void waitsByForwards() {
        Check.topic("15 waits, by forwards");
        FlushedPipes x = Check.told("u00;u11;o201;");
        int[] third = {5, 5, 5, 2, 4, 4, 3, 2};
        for (int forwards = 0; forwards < 8; forwards++) {
            x.tells(3, forwards, 1);
            Check.due("step(2) by " + forwards, x.step(2), third[forwards]);
            Check.due("wrong() by " + forwards, x.wrong(), 0);
        }
        x = Check.told("u00;u10;u00;n;");
        x.tells(2, 2, 1);
        Check.due("step(1)", x.step(1), 2);
        Check.due("step(2)", x.step(2), 3);
        Check.due("step(3)", x.step(3), 4);
    }

    private static void wrong() {
        Check.topic("17 wrong");
        FlushedPipes x = Check.told("=fab;=fffa fa;u00;u10;u21;o333;");
        Check.due("wrong(): f f a is a's, f f f a is f b by the facts", x.wrong(), 2 + 4);
        x.tells(2, 1, 0);
        Check.due("wrong()", x.wrong(), 0);
        x.tells(2, 2, 0);
        Check.due("wrong()", x.wrong(), 2 + 4);
        x.tells(0, 0, 0);
        Check.due("wrong()", x.wrong(), 0);
        x.tells(1, 0, 0);
        x.puts(3, 2, 3, 0, 1);
        Check.due("wrong()", x.wrong(), 14);
        x = Check.told("=faa;u00;u00;u30;");
        Check.due("wrong(): f a is a", x.wrong(), 0);
        x.leaves(0);
        Check.due("wrong()", x.wrong(), 9);
        x = Check.told("!aa;u00;u00;");
        Check.due("wrong(): all is ruled out", x.wrong(), 0);
        x = Check.told("!ffa fa;u00;u00;");
        Check.due("wrong(): unlike is not equal", x.wrong(), 1);
    }

    private static void needed() {
        Check.topic("18 needed");
        FlushedPipes x = Check.told("u00;n;u10;");
        Check.due("needed()", x.needed(), 2);
        x.tells(1, 7, 1);
        Check.due("needed() for a lower lag", x.needed(), 0);
        x.tells(3, 7, 1);
        Check.due("needed() whatever the pipe has", x.needed(), 2);
        x.puts(3, 1, 2, 0, 0);
        Check.due("needed()", x.needed(), 6);
        x.puts(1, 1, 3, 0, 0);
        Check.due("needed()", x.needed(), 7);
        x.puts(2, 0, 0, 0, 0);
        Check.due("needed()", x.needed(), 5);
        x.puts(1, 0, 0, 0, 0);
        Check.due("needed()", x.needed(), 4);
        x = Check.told("=faa;u00;n;u10;u00;");
        Check.due("needed() by facts", x.needed(), 0);
        x.leaves(0);
        x.tells(3, 0, 0);
        Check.due("needed() without it", x.needed(), 6);
        Check.dueCounts(x, 1, 0, 4, 3, 0, 0, 0, 0, 2);
        x = Check.told("o000;u10;o000;u10;");
        x.tells(3, 0, 0);
        Check.due("needed(): of two with as few bits", x.needed(), 3);
    }

    private static void neededOrder() {
        Check.topic("18 needed, order");
        neededBy3("1 or 2", "u01;u01;u10;", 1);
        neededBy3("1 or 4", "u02;n;u02;u00;", 1);
        neededBy3("2 or 4", "u01;u01;n;u00;", 2);
        neededBy3("4, or 1 and 2", "=bfb;u01;u00;n;u00;", 4);
        neededBy3("1 and 2, or 2 and 3", "u10;u20;u10;o112;", 3);
        neededBy3("1 and 3, or 2 and 3", "u12;u20;u20;o121;", 5);
    }

    private static void neededBy3(String which, String text, int want) {
        FlushedPipes x = Check.told(text);
        x.tells(3, 0, 0);
        Check.due("needed() of " + which, x.needed(), want);
    }

    private static void fewest() {
        Check.topic("19 fewest");
        FlushedPipes x = Check.told("=cd;=faa;=fffaa;=ffffa fa;u00;u00;");
        Check.due("wrong()", x.wrong(), 0);
        Check.due("fewest()", x.fewest(), 2);
        x.leaves(1);
        Check.due("wrong()", x.wrong(), 1);
        Check.due("fewest()", x.fewest(), Check.NONE);
        x.tells(0, 0, 0);
        Check.due("fewest() of a right pipe", x.fewest(), 0);
        x.tells(2, 0, 1);
        Check.due("fewest() as the pipe is", x.fewest(), 0);
        Check.due("count(1)", x.count(1), 13);
    }

    private static void fewestOrder() {
        Check.topic("19 fewest, order");
        FlushedPipes x = Check.told("=ab;=fab;=faa;u00;u00;");
        Check.due("one fact does", x.fewest(), 4);
        x.leaves(2);
        Check.due("two facts do", x.fewest(), 3);
        x = Check.told("=cd;=faa;=cc;=ffafa;u00;u00;");
        Check.due("of several the least", x.fewest(), 2);
        x.leaves(1);
        Check.due("the other one", x.fewest(), 8);
        x = Check.told("!aa;=faa;u00;u00;");
        Check.due("what rules out all does, too", x.fewest(), 1);
        x = Check.told("=ab;=bc;!ac;=ad;!bd;u00;u00;");
        Check.due("as few as rule out all", x.fewest(), 1 + 2 + 4);
        x.leaves(1);
        Check.due("others do", x.fewest(), 1 + 8 + 16);
    }

    private static void broken() {
        Check.topic("20 broken");
        FlushedPipes x = new FlushedPipes();
        for (int lag = 0; lag < 4; lag++) {
            for (int forwards = 0; forwards < 8; forwards++) {
                x.tells(lag, forwards, 0);
                int size = firstHidden(lag, forwards) + 1;
                Check.due("broken(-1) by " + lag + ", " + forwards, x.broken(-1), size == 1 ? Check.NONE : size);
                for (int k = 0; k < size; k++) {
                    int want = size == 1 ? Check.NONE : k == 0 || k == size - 1 ? 0 : 4;
                    Check.due("broken(" + k + ") by " + lag + ", " + forwards, x.broken(k), want);
                }
                Check.due("broken(size)", x.broken(size), Check.NONE);
                x.tells(lag, forwards, 1);
                Check.due("broken(-1), waiting", x.broken(-1), Check.NONE);
                Check.due("broken(0), waiting", x.broken(0), Check.NONE);
            }
        }
        Check.due("broken(-2)", x.broken(-2), Check.BAD);
        Check.due("broken(min)", x.broken(Integer.MIN_VALUE), Check.BAD);
        Check.due("broken(max)", x.broken(Integer.MAX_VALUE), Check.NONE);
        Check.due("count(2)", x.count(2), 0);
        x = Check.told("=gaaa;=ab;");
        Check.due("broken(-1) without facts", x.broken(-1), 2);
    }

    /** The least distance at which a pipe that does not wait hides what was made; 0: none. */
    private static int firstHidden(int lag, int forwards) {
        for (int distance = 1; distance <= lag; distance++) {
            if ((forwards >> distance - 1 & 1) == 0) {
                return distance;
            }
        }
        return 0;
    }

    private static void sees() {
        Check.topic("21, 22 sees and forget");
        FlushedPipes x = Check.told("u00;u00;");
        Check.due("forget()", x.forget(), 0);
        Check.due("sees(-1)", x.sees(-1), Check.BAD);
        Check.due("sees(16)", x.sees(16), Check.BAD);
        Check.due("sees(max)", x.sees(Integer.MAX_VALUE), Check.BAD);
        for (int i = 1; i <= 4; i++) {
            Check.due("sees(0)", x.sees(0), i);
            Check.due("count(6)", x.count(6), i);
        }
        Check.due("sees(0), the fifth", x.sees(0), Check.FULL);
        Check.due("sees(16), the fifth", x.sees(16), Check.BAD);
        Check.due("unseen()", x.unseen(), 0b10101010);
        Check.due("forget()", x.forget(), 4);
        Check.due("count(6)", x.count(6), 0);
        Check.due("unseen()", x.unseen(), 255);
        Check.due("sees(15)", x.sees(15), 1);
        Check.due("unseen()", x.unseen(), 0);
    }

    private static void unseen() {
        Check.topic("23 unseen");
        FlushedPipes x = Check.told("=faa;u00;n;u10;");
        x.sees(2);
        Check.due("not forwarded at 2, whatever the facts", x.unseen(), 0b00110011);
        x.puts(0, 0, 0, 0, 0);
        x.tells(0, 7, 1);
        Check.due("as it was when it was seen", x.unseen(), 0b00110011);
        x.tells(3, 7, 1);
        x.puts(0, 1, 0, 0, 0);
        x.puts(1, 1, 2, 0, 0);
        x.puts(2, 0, 0, 0, 0);
        x.sees(0);
        Check.due("forwarded at 1, too", x.unseen(), 0b00100010);
        x.puts(1, 0, 0, 0, 0);
        x.puts(3, 1, 3, 0, 0);
        x.sees(8);
        Check.due("not forwarded at 3, too", x.unseen(), 0b00000010);
        x.undo();
        x.undo();
        Check.due("undo() does not reach it", x.unseen(), 0b00000010);
        x.sees(1);
        Check.due("nothing is so", x.unseen(), 0);
        x.forget();
        Check.due("unseen()", x.unseen(), 255);
    }
}
