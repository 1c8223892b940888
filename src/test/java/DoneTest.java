/** Promises 6 to 9 and 24 to 26: what is done and undone, images, counts. */
public final class DoneTest {
    public static void main(String[] args) {
        puts();
        putsRefused();
        leaves();
        tells();
        undo();
        undoKnowsTen();
        images();
        imagesKeepNothingElse();
        count();
        Check.end();
    }

    private static void puts() {
        Check.topic("6 puts");
        FlushedPipes x = new FlushedPipes();
        Check.due("puts at the end", x.puts(0, 1, 0, 1, 0), 1);
        Check.due("puts at the end", x.puts(1, 2, 3, 2, 1), 2);
        Check.due("puts in place", x.puts(0, 0, 0, 0, 0), 2);
        Check.due("instruction(0, 0)", x.instruction(0, 0), 0);
        Check.due("instruction(1, 0)", x.instruction(1, 0), 2);
        Check.due("instruction(1, 1)", x.instruction(1, 1), 3);
        Check.due("instruction(1, 2)", x.instruction(1, 2), 2);
        Check.due("instruction(1, 3)", x.instruction(1, 3), 1);
        Check.dueTerm(x, 3, 0, "gcb");
        Check.dueTerm(x, 0, 0, "a");
        for (int k = 2; k < 6; k++) {
            Check.due("puts(" + k + ", ..)", x.puts(k, 0, 0, 0, 0), k + 1);
        }
        Check.due("puts in place of the last", x.puts(5, 1, 3, 3, 0), 6);
        Check.dueTerm(x, 3, 0, "fgcb");
    }

    private static void putsRefused() {
        Check.topic("6 puts refused");
        FlushedPipes x = Check.told("u12;");
        int[][] bad = {{-1, 0, 0, 0, 0}, {2, 0, 0, 0, 0}, {7, 0, 0, 0, 0}, {0, -1, 0, 0, 0}, {0, 3, 0, 0, 0},
            {0, 1, 4, 0, 0}, {0, 1, -1, 0, 0}, {0, 1, 0, 4, 0}, {0, 1, 0, -1, 0}, {0, 1, 1, 2, 1}, {0, 1, 0, 0, -1},
            {0, 2, 0, 0, 4}, {0, 2, 0, 0, -1}, {0, 2, 4, 0, 0}, {0, 2, 0, 4, 0}, {1, 0, 1, 0, 0}, {1, 0, 0, 1, 0},
            {1, 0, 0, 0, 1}, {1, 0, 4, 0, 0}, {Integer.MAX_VALUE, 0, 0, 0, 0}, {Integer.MIN_VALUE, 0, 0, 0, 0},
            {0, 1, Integer.MIN_VALUE, 2, 0}, {0, 256, 1, 2, 0}};
        for (int[] b : bad) {
            Check.due("puts" + java.util.Arrays.toString(b), x.puts(b[0], b[1], b[2], b[3], b[4]), Check.BAD);
        }
        Check.due("puts of the same", x.puts(0, 1, 1, 2, 0), Check.STATE);
        Check.dueCounts(x, 0, 0, 1, 2, 0, 0, 0, 0, 0);
        for (int k = 1; k < 6; k++) {
            x.puts(k, 0, 0, 0, 0);
        }
        Check.due("puts of the same, full", x.puts(5, 0, 0, 0, 0), Check.STATE);
        Check.due("puts of the seventh", x.puts(6, 1, 1, 1, 0), Check.FULL);
        Check.due("puts of a bad seventh", x.puts(6, 1, 1, 1, 1), Check.BAD);
        Check.due("puts of the eighth", x.puts(7, 0, 0, 0, 0), Check.BAD);
        Check.due("count(8)", x.count(8), 5);
    }

    private static void leaves() {
        Check.topic("7 leaves");
        FlushedPipes x = Check.told("=ab;!ab;");
        Check.due("ruled()", x.ruled(), 1);
        Check.due("leaves(0)", x.leaves(0), 0);
        Check.due("ruled()", x.ruled(), 0);
        Check.due("count(1)", x.count(1), 2);
        Check.due("leaves(1)", x.leaves(1), 0);
        Check.due("count(1)", x.count(1), 0);
        Check.due("count(0)", x.count(0), 2);
        Check.due("leaves(0)", x.leaves(0), 1);
        Check.due("count(1)", x.count(1), 1);
        Check.due("leaves(2)", x.leaves(2), Check.BAD);
        Check.due("leaves(-1)", x.leaves(-1), Check.BAD);
        Check.due("leaves(32)", x.leaves(32), Check.BAD);
        Check.due("count(1)", x.count(1), 1);
        Check.due("count(8)", x.count(8), 3);
    }

    private static void tells() {
        Check.topic("8 tells");
        FlushedPipes x = new FlushedPipes();
        Check.due("tells as at first", x.tells(2, 0, 0), Check.STATE);
        for (int lag = 0; lag < 4; lag++) {
            for (int forwards = 7; forwards >= 0; forwards--) {
                for (int waits = 1; waits >= 0; waits--) {
                    Check.due("tells", x.tells(lag, forwards, waits), 1);
                    Check.due("tells again", x.tells(lag, forwards, waits), Check.STATE);
                    Check.due("lag", x.count(3), lag);
                    Check.due("forwards", x.count(4), forwards);
                    Check.due("waits", x.count(5), waits);
                }
            }
        }
        int[][] bad = {{-1, 0, 0}, {4, 0, 0}, {0, -1, 0}, {0, 8, 0}, {0, 0, -1}, {0, 0, 2},
            {Integer.MAX_VALUE, 0, 0}, {3, Integer.MIN_VALUE, 0}, {3, 0, Integer.MAX_VALUE}};
        for (int[] b : bad) {
            Check.due("tells" + java.util.Arrays.toString(b), x.tells(b[0], b[1], b[2]), Check.BAD);
        }
        Check.dueCounts(x, 0, 0, 0, 3, 0, 0, 0, 0, 10);
    }

    private static void undo() {
        Check.topic("9 undo");
        FlushedPipes x = Check.told("=ab;u01;");
        x.puts(0, 1, 2, 3, 0);
        x.leaves(0);
        x.tells(3, 4, 1);
        x.puts(1, 2, 0, 1, 2);
        x.sees(1);
        x.puts(1, 2, 0, 1, 2);
        x.tells(9, 9, 9);
        Check.dueCounts(x, 1, 0, 2, 3, 4, 1, 1, 0, 4);
        Check.due("undo()", x.undo(), 3);
        Check.dueCounts(x, 1, 0, 1, 3, 4, 1, 1, 0, 3);
        Check.due("undo()", x.undo(), 2);
        Check.dueCounts(x, 1, 0, 1, 2, 0, 0, 1, 0, 2);
        Check.due("undo()", x.undo(), 1);
        Check.dueCounts(x, 1, 1, 1, 2, 0, 0, 1, 0, 1);
        Check.due("instruction(0, 1)", x.instruction(0, 1), 2);
        Check.due("undo()", x.undo(), 0);
        Check.due("instruction(0, 1)", x.instruction(0, 1), 0);
        Check.due("instruction(0, 2)", x.instruction(0, 2), 1);
        Check.due("undo()", x.undo(), Check.STATE);
        Check.dueCounts(x, 1, 1, 1, 2, 0, 0, 1, 0, 0);
    }

    private static void undoKnowsTen() {
        Check.topic("9 undo knows ten");
        FlushedPipes x = new FlushedPipes();
        for (int i = 1; i <= 13; i++) {
            Check.due("tells", x.tells(i % 4, i % 8, 0), 1);
            Check.due("count(8)", x.count(8), Math.min(i, 10));
        }
        for (int i = 12; i >= 3; i--) {
            Check.due("undo()", x.undo(), i - 3);
            Check.due("lag", x.count(3), i % 4);
            Check.due("forwards", x.count(4), i % 8);
        }
        Check.due("undo()", x.undo(), Check.STATE);
        Check.due("forwards", x.count(4), 3);
        x.puts(0, 1, 0, 0, 0);
        Check.due("undo()", x.undo(), 0);
        Check.due("count(2)", x.count(2), 0);
    }

    private static void images() {
        Check.topic("24, 25 images");
        FlushedPipes x = Check.told("=ab;!cd;u01;u10;");
        Check.due("keep(0)", x.keep(0), 2);
        x.puts(2, 2, 3, 2, 1);
        x.puts(0, 0, 0, 0, 0);
        x.leaves(1);
        x.tells(1, 6, 1);
        Check.due("keep(1)", x.keep(1), 3);
        Check.due("back(0)", x.back(0), 2);
        Check.dueCounts(x, 2, 3, 2, 2, 0, 0, 0, 0, 0);
        Check.due("instruction(0, 0)", x.instruction(0, 0), 1);
        Check.due("undo()", x.undo(), Check.STATE);
        x.puts(0, 2, 0, 0, 0);
        Check.due("back(1)", x.back(1), 3);
        Check.dueCounts(x, 2, 1, 3, 1, 6, 1, 0, 0, 0);
        Check.due("instruction(0, 0)", x.instruction(0, 0), 0);
        Check.due("instruction(2, 1)", x.instruction(2, 1), 3);
        Check.due("back(0) again", x.back(0), 2);
        Check.due("instruction(0, 0)", x.instruction(0, 0), 1);
        Check.due("keep(-1)", x.keep(-1), Check.BAD);
        Check.due("keep(2)", x.keep(2), Check.BAD);
        Check.due("back(-1)", x.back(-1), Check.BAD);
        Check.due("back(2)", x.back(2), Check.BAD);
        Check.due("keep(max)", x.keep(Integer.MAX_VALUE), Check.BAD);
        Check.due("back(min)", x.back(Integer.MIN_VALUE), Check.BAD);
    }

    private static void imagesKeepNothingElse() {
        Check.topic("25 images keep nothing else");
        FlushedPipes x = Check.told("u00;u00;");
        Check.due("keep(0)", x.keep(0), 2);
        x.sees(1);
        Check.type(x, "n;");
        x.tells(0, 0, 0);
        Check.due("keep(1)", x.keep(1), 2);
        Check.due("count(8) behind keep", x.count(8), 1);
        Check.due("back(1)", x.back(1), 2);
        Check.dueCounts(x, 0, 0, 2, 0, 0, 0, 1, 2, 0);
        x.puts(2, 0, 0, 0, 0);
        Check.due("keep(0) over an older one", x.keep(0), 3);
        Check.due("back(0)", x.back(0), 3);
        Check.due("a refused back(1) changes nothing", new FlushedPipes().back(1), Check.STATE);
        x.puts(3, 0, 0, 0, 0);
        Check.due("back(2)", x.back(2), Check.BAD);
        Check.due("undo() behind a refused back()", x.undo(), 0);
    }

    private static void count() {
        Check.topic("26 count");
        FlushedPipes x = Check.told("=ab;=bc;!cd;u01;o210;");
        x.leaves(1);
        x.tells(1, 6, 1);
        x.sees(0);
        x.sees(0);
        Check.type(x, "12345");
        Check.dueCounts(x, 3, 5, 2, 1, 6, 1, 2, 5, 2);
        Check.due("count(-1)", x.count(-1), Check.BAD);
        Check.due("count(9)", x.count(9), Check.BAD);
        Check.due("count(max)", x.count(Integer.MAX_VALUE), Check.BAD);
        Check.due("count(min)", x.count(Integer.MIN_VALUE), Check.BAD);
    }
}
