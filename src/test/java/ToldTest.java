/** Promises 1 to 5: a new object, the text and what it tells. */
public final class ToldTest {
    public static void main(String[] args) {
        newObject();
        type();
        clear();
        machineTells();
        machineFaults();
        machineStartsAnew();
        instruction();
        Check.end();
    }

    private static void newObject() {
        Check.topic("1 a new object");
        FlushedPipes x = new FlushedPipes();
        Check.dueCounts(x, 0, 0, 0, 2, 0, 0, 0, 0, 0);
        Check.due("ruled()", x.ruled(), 0);
        Check.due("wrong()", x.wrong(), 0);
        Check.due("length()", x.length(), 0);
        Check.due("needed()", x.needed(), 0);
        Check.due("fewest()", x.fewest(), 0);
        Check.due("unseen()", x.unseen(), 255);
        Check.due("undo()", x.undo(), Check.STATE);
        Check.due("back(0)", x.back(0), Check.STATE);
        Check.due("back(1)", x.back(1), Check.STATE);
        Check.due("fact(0)", x.fact(0), Check.BAD);
        Check.due("step(0)", x.step(0), Check.BAD);
        for (int r = 0; r < 4; r++) {
            for (int way = 0; way < 2; way++) {
                Check.due("deep", x.deep(r, way), 0);
                Check.dueTerm(x, r, way, "abcd".substring(r, r + 1));
            }
        }
    }

    private static void type() {
        Check.topic("2 type");
        FlushedPipes x = new FlushedPipes();
        Check.due("type(-1)", x.type(-1), Check.BAD);
        Check.due("type(256)", x.type(256), Check.BAD);
        Check.due("type(min)", x.type(Integer.MIN_VALUE), Check.BAD);
        Check.due("type(max)", x.type(Integer.MAX_VALUE), Check.BAD);
        Check.due("type(0)", x.type(0), 1);
        Check.due("type(255)", x.type(255), 2);
        for (int i = 3; i <= 100; i++) {
            Check.due("type(32)", x.type(32), i);
        }
        Check.due("type(32), the 101st", x.type(32), Check.FULL);
        Check.due("type(300), the 101st", x.type(300), Check.BAD);
        Check.due("count(7)", x.count(7), 100);
    }

    private static void clear() {
        Check.topic("3 clear");
        FlushedPipes x = new FlushedPipes();
        Check.due("clear()", x.clear(), 0);
        Check.type(x, "u01;%");
        Check.due("clear()", x.clear(), 5);
        Check.due("clear()", x.clear(), 0);
        Check.type(x, "n;");
        Check.due("machine()", x.machine(), 1);
        Check.due("clear()", x.clear(), 0);
        Check.due("count(2)", x.count(2), 1);
    }

    private static void machineTells() {
        Check.topic("4 machine tells");
        FlushedPipes x = new FlushedPipes();
        Check.due("machine() of nothing", x.machine(), 0);
        Check.type(x, "   ");
        Check.due("machine() of blanks", x.machine(), 0);
        Check.due("count(7)", x.count(7), 0);
        x = Check.told("  =g a f b  c ; ! a g g f a b f f f d;n ;u 3 2; o 1  2 3 ;  ");
        Check.dueCounts(x, 2, 3, 3, 2, 0, 0, 0, 0, 0);
        Check.due("fact(0)", x.fact(0), 1);
        Check.due("fact(1)", x.fact(1), 2);
        x = Check.told("=aa;=ab;=ac;!ad;=bb;=bc;n;n;n;n;n;n;");
        Check.dueCounts(x, 6, 63, 6, 2, 0, 0, 0, 0, 0);
        Check.told("=ggggaabcda;");
        Check.told("=a" + "g".repeat(4) + "aagaaggaagaagggaagaaggaagaa;");
    }

    private static void machineFaults() {
        Check.topic("4 machine faults");
        String six = "n;n;n;n;n;n;";
        String facts = "=aa;=aa;!ab;=aa;=aa;=aa;";
        fault("=", 1);
        fault("=a", 2);
        fault("=ab", 3);
        fault("=ab  ", 5);
        fault("n", 1);
        fault("u", 1);
        fault("u0", 2);
        fault("u00", 3);
        fault("o00", 3);
        fault("o000", 4);
        fault("=gab", 4);
        fault(";", 0);
        fault("a", 0);
        fault("0", 0);
        fault(" ;", 1);
        fault("n;;", 2);
        fault("=abc;", 3);
        fault("=a;b", 2);
        fault("=a=", 2);
        fault("=an;", 2);
        fault("=a0;", 2);
        fault("n0;", 1);
        fault("u0;", 2);
        fault("u000;", 3);
        fault("u04;", 2);
        fault("o00a;", 3);
        fault("o0000;", 4);
        fault("oo", 1);
        fault("n;x", 2);
        fault("N;", 0);
        fault("n\t;", 1);
        fault("n;\n", 2);
        fault("n" + (char) 0 + ";", 1);
        fault("n;" + (char) 160, 2);
        fault("n;" + (char) 255 + "%", 2);
        fault("=ea;", 1);
        fault("=a`;", 2);
        fault("=fffffa", 5);
        fault("=ffffg", 5);
        fault("=ffff;", 5);
        fault("=ffffab", 7);
        fault("=ag a f f f f a a;", 12);
        fault("=gaggggaabcdfa;", 6);
        fault(six + "n;", 12);
        fault(six + "u00;", 12);
        fault(six + " o", 13);
        fault(facts + "=", 24);
        fault(facts + "!aa;", 24);
        fault(facts + six + "!", 36);
        fault(six + facts + "n", 36);
        fault(six + "x", 12);
        fault(" ".repeat(99) + "n", 100);
    }

    private static void fault(String text, int want) {
        FlushedPipes x = new FlushedPipes();
        Check.type(x, "=ab;u01;");
        x.machine();
        x.tells(1, 2, 1);
        x.leaves(0);
        x.keep(1);
        x.sees(3);
        Check.type(x, text);
        Check.due("machine() of '" + text + "'", x.machine(), -10 - want);
        Check.dueCounts(x, 1, 0, 1, 1, 2, 1, 1, text.length(), 2);
        Check.due("back(1) behind a fault", x.back(1), 1);
        Check.due("leaves(0) behind a fault", x.leaves(0), 1);
        Check.due("fact(0) behind a fault", x.fact(0), 1);
        Check.dueTerm(x, 0, 0, "fb");
    }

    private static void machineStartsAnew() {
        Check.topic("4 machine starts anew");
        FlushedPipes x = Check.told("=ab;!cd;u01;u10;");
        x.tells(3, 5, 1);
        x.leaves(0);
        x.puts(2, 0, 0, 0, 0);
        x.sees(15);
        x.keep(0);
        x.keep(1);
        Check.dueCounts(x, 2, 2, 3, 3, 5, 1, 1, 0, 3);
        Check.type(x, "=cd;u33;");
        Check.due("machine()", x.machine(), 2);
        Check.dueCounts(x, 1, 1, 1, 2, 0, 0, 0, 0, 0);
        Check.due("unseen()", x.unseen(), 255);
        Check.due("undo()", x.undo(), Check.STATE);
        Check.due("back(0)", x.back(0), Check.STATE);
        Check.due("back(1)", x.back(1), Check.STATE);
        Check.due("fact(0)", x.fact(0), 1);
        Check.due("fact(1)", x.fact(1), Check.BAD);
        Check.dueTerm(x, 3, 0, "fd");
        Check.due("machine() of nothing", x.machine(), 0);
        Check.dueCounts(x, 0, 0, 0, 2, 0, 0, 0, 0, 0);
        Check.dueTerm(x, 3, 0, "d");
    }

    private static void instruction() {
        Check.topic("5 instruction");
        FlushedPipes x = Check.told("o 3 1 2;u 2 3;n;");
        int[][] want = {{2, 3, 1, 2}, {1, 2, 3, 0}, {0, 0, 0, 0}};
        for (int k = 0; k < 3; k++) {
            for (int what = 0; what < 4; what++) {
                Check.due("instruction(" + k + ", " + what + ")", x.instruction(k, what), want[k][what]);
            }
        }
        Check.due("instruction(3, 0)", x.instruction(3, 0), Check.BAD);
        Check.due("instruction(-1, 0)", x.instruction(-1, 0), Check.BAD);
        Check.due("instruction(0, -1)", x.instruction(0, -1), Check.BAD);
        Check.due("instruction(0, 4)", x.instruction(0, 4), Check.BAD);
        Check.due("instruction(min, max)", x.instruction(Integer.MIN_VALUE, Integer.MAX_VALUE), Check.BAD);
    }
}
