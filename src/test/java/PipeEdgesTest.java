/** The edges of facts and of the pipe: promises 10 to 20. */
public final class PipeEdgesTest {
    private static final int MAX = Integer.MAX_VALUE;

    public static void main(String[] args) {
        equalIsOneTwoOrNone();
        allIsRuledOut();
        factRange();
        ruledWithoutFacts();
        equalRanges();
        deepRange();
        termEndsBehindItsLastLetter();
        visibleAboveLag();
        latestThatIsVisible();
        firstStepAndOthers();
        waitsForTheLeastStep();
        waitsForWhatItReads();
        lengthRange();
        wrongRange();
        neededRange();
        neededOfNothing();
        fewestRange();
        fewestOfNothing();
        brokenRange();
        brokenWithoutFactsAndProgram();
        Check.end();
    }

    private static boolean shows(int lag, int forwards, int distance) {
        return distance > lag || distance <= 3 && (forwards >> distance - 1 & 1) == 1;
    }

    private static void equalIsOneTwoOrNone() {
        Check.topic("EQUAL: 1: SAME; 2 (not 1): all would be RULED OUT, if they were equal, too; 0 else");
        FlushedPipes x = Check.told("=ab;!bc;");
        int[][] want = {{1, 1, 2, 0}, {1, 1, 2, 0}, {2, 2, 1, 0}, {0, 0, 0, 1}};
        for (int r = 0; r <= 3; r++) {
            for (int s = 0; s <= 3; s++) {
                for (int way = 0; way <= 2; way++) {
                    Check.due("equal(" + r + ", " + s + ", " + way + ")", x.equal(r, s, way), want[r][s]);
                }
            }
        }
        x = Check.told("!fafb;!gccgdd;!cb;");
        Check.due("fact(0): UNLIKE as told", x.fact(0), 2);
        Check.due("a and b, by f", x.equal(0, 1, 0), 2);
        Check.due("c and d, by g", x.equal(2, 3, 0), 2);
        Check.due("a and c, by nothing", x.equal(0, 2, 0), 0);
        Check.due("b and c, as told", x.equal(1, 2, 0), 2);
    }

    private static void allIsRuledOut() {
        Check.topic("EQUAL: 1: all is RULED OUT");
        FlushedPipes x = Check.told("!ab;=cd;!dc;u00;u10;");
        Check.due("ruled()", x.ruled(), 1);
        for (int fact = 0; fact <= 2; fact++) {
            Check.due("fact(" + fact + ")", x.fact(fact), 1);
        }
        for (int r = 0; r <= 3; r++) {
            for (int s = 0; s <= 3; s++) {
                for (int way = 0; way <= 2; way++) {
                    Check.due("equal(" + r + ", " + s + ", " + way + ")", x.equal(r, s, way), 1);
                }
            }
        }
        Check.due("wrong()", x.wrong(), 0);
        Check.due("needed()", x.needed(), 0);
        Check.due("fewest()", x.fewest(), 6);
        x.leaves(2);
        Check.due("ruled()", x.ruled(), 0);
        Check.due("fact(0)", x.fact(0), 2);
        Check.due("wrong()", x.wrong(), 2);
    }

    private static void factRange() {
        Check.topic("10 EQUAL of the two TERMS of a FACT (be it in or out) by those that are in. BAD");
        for (int facts = 0; facts <= 6; facts++) {
            FlushedPipes x = Check.told("=ab;!cd;=ab;!cd;=ab;!cd;".substring(0, 4 * facts));
            Check.due("fact(-1)", x.fact(-1), Check.BAD);
            for (int fact = 0; fact < facts; fact++) {
                Check.due("fact(" + fact + ")", x.fact(fact), 1 + fact % 2);
            }
            Check.due("fact(" + facts + ")", x.fact(facts), Check.BAD);
            for (int fact = 0; fact < facts; fact++) {
                x.leaves(fact);
            }
            for (int fact = 0; fact < facts; fact++) {
                Check.due("fact(" + fact + "), all are out", x.fact(fact), 0);
            }
            Check.due("fact(" + facts + "), all are out", x.fact(facts), Check.BAD);
        }
    }

    private static void ruledWithoutFacts() {
        Check.topic("11 Whether all is RULED OUT (1, 0)");
        Check.due("ruled() without FACTS", new FlushedPipes().ruled(), 0);
        FlushedPipes x = Check.told("!dd;!dd;!dd;!dd;!dd;!dd;");
        for (int fact = 0; fact <= 5; fact++) {
            Check.due("ruled() by the others", x.ruled(), 1);
            x.leaves(fact);
        }
        Check.due("ruled(), all are out", x.ruled(), 0);
        x.leaves(5);
        Check.due("ruled() by the last one", x.ruled(), 1);
        Check.due("ruled() by the deepest TERMS", Check.told("=ab;!ffffaffffb;").ruled(), 1);
        Check.due("ruled() by the deepest TERMS", Check.told("=ffffaffffb;!ab;").ruled(), 0);
    }

    private static void equalRanges() {
        Check.topic("12 equal (way 0: both PLAIN, 1: both PIPED, 2: r PLAIN, s PIPED). BAD");
        FlushedPipes x = Check.told("u00;u30;");
        Check.due("equal(0, 3, 0)", x.equal(0, 3, 0), 0);
        Check.due("equal(0, 3, 1)", x.equal(0, 3, 1), 1);
        Check.due("equal(0, 3, 2)", x.equal(0, 3, 2), 1);
        Check.due("equal(3, 0, 2)", x.equal(3, 0, 2), 0);
        Check.due("equal(3, 3, 2)", x.equal(3, 3, 2), 0);
        Check.due("equal(3, 3, 1)", x.equal(3, 3, 1), 1);
        Check.due("equal(3, 3, 0)", x.equal(3, 3, 0), 1);
        Check.due("equal(3, 3, 3)", x.equal(3, 3, 3), Check.BAD);
        Check.due("equal(3, 3, -1)", x.equal(3, 3, -1), Check.BAD);
        Check.due("equal(4, 0, 0)", x.equal(4, 0, 0), Check.BAD);
        Check.due("equal(0, 4, 0)", x.equal(0, 4, 0), Check.BAD);
        Check.due("equal(-1, 3, 0)", x.equal(-1, 3, 0), Check.BAD);
        Check.due("equal(3, -1, 0)", x.equal(3, -1, 0), Check.BAD);
    }

    private static void deepRange() {
        Check.topic("13 How DEEP: 0 if it is a CONSTANT, else 1 more than its deepest part; TERMS of REGISTERS go deeper");
        FlushedPipes x = new FlushedPipes();
        x.tells(0, 0, 0);
        for (int deep = 0; deep <= 6; deep++) {
            for (int way = 0; way <= 1; way++) {
                Check.due("deep(3, " + way + ")", x.deep(3, way), deep);
                Check.due("deep(0, " + way + ")", x.deep(0, way), 0);
            }
            if (deep < 6) {
                x.puts(deep, 1 + deep % 2, 3, 3, 0);
            }
        }
        x = Check.told("u00;u00;o101;o210;");
        x.tells(0, 0, 0);
        Check.due("the left part is deeper", x.deep(1, 1), 3);
        Check.due("the left part is deeper", x.deep(2, 1), 4);
        x.puts(3, 2, 2, 3, 1);
        Check.due("the right part is deeper", x.deep(2, 1), 4);
        Check.due("deep(-1, 0)", x.deep(-1, 0), Check.BAD);
        Check.due("deep(4, 0)", x.deep(4, 0), Check.BAD);
        Check.due("deep(0, -1)", x.deep(0, -1), Check.BAD);
        Check.due("deep(0, 2)", x.deep(0, 2), Check.BAD);
    }

    private static void termEndsBehindItsLastLetter() {
        Check.topic("14 The k-th (0 on) letter; NONE: it has not so many. BAD (k below 0)");
        FlushedPipes x = new FlushedPipes();
        x.tells(0, 0, 0);
        String want = "d";
        for (int size = 0; size <= 6; size++) {
            for (int way = 0; way <= 1; way++) {
                Check.due("first", x.term(3, way, 0), want.charAt(0));
                Check.due("last", x.term(3, way, want.length() - 1), 'd');
                Check.due("behind the last", x.term(3, way, want.length()), Check.NONE);
                Check.due("max", x.term(3, way, MAX), Check.NONE);
                Check.due("-1", x.term(3, way, -1), Check.BAD);
            }
            if (size < 6) {
                x.puts(size, 2, 3, 3, 3);
                want = "g" + want + want;
            }
        }
        Check.due("letters of the longest", want.length(), 127);
        Check.dueTerm(x, 3, 0, want);
        Check.dueTerm(x, 3, 1, want);
        x = Check.told("u00;u00;u00;u00;u00;u00;");
        Check.dueTerm(x, 0, 0, "ffffffa");
        Check.dueTerm(x, 0, 1, "ffa");
        Check.dueTerm(x, 1, 1, "b");
    }

    private static String nothings(int times) {
        return "n;".repeat(times);
    }

    private static void visibleAboveLag() {
        Check.topic("VISIBLE: the STEP of k less that of j is above LAG, or is a distance that is of FORWARDS");
        for (int distance = 1; distance <= 5; distance++) {
            FlushedPipes x = Check.told("u01;" + nothings(distance - 1) + "u20;");
            for (int lag = 0; lag <= 3; lag++) {
                for (int forwards = 0; forwards <= 7; forwards++) {
                    x.tells(lag, forwards, 0);
                    String pipe = distance + " by " + lag + ", " + forwards;
                    boolean shown = shows(lag, forwards, distance);
                    Check.due("deep(2, 1) at " + pipe, x.deep(2, 1), shown ? 2 : 1);
                    Check.due("term(2, 1, 1) at " + pipe, x.term(2, 1, 1), shown ? 'f' : 'a');
                    Check.due("wrong() at " + pipe, x.wrong(), shown ? 0 : 4);
                    Check.due("deep(0, 1) at " + pipe, x.deep(0, 1), 1);
                }
            }
        }
    }

    private static void latestThatIsVisible() {
        Check.topic("the latest INSTRUCTION j ahead of it that makes this REGISTER and is VISIBLE; else what it had at first");
        for (int late = 1; late <= 4; late++) {
            for (int early = late + 1; early <= 5; early++) {
                String text = "u01;" + nothings(early - late - 1) + "u02;" + nothings(late - 1) + "u30;";
                FlushedPipes x = Check.told(text);
                for (int lag = 0; lag <= 3; lag++) {
                    for (int forwards = 0; forwards <= 7; forwards++) {
                        x.tells(lag, forwards, 0);
                        String want = shows(lag, forwards, late) ? "ffc" : shows(lag, forwards, early) ? "ffb" : "fa";
                        for (int k = 0; k <= want.length(); k++) {
                            int letter = k < want.length() ? want.charAt(k) : Check.NONE;
                            Check.due("'" + text + "' by " + lag + ", " + forwards, x.term(3, 1, k), letter);
                        }
                    }
                }
            }
        }
    }

    private static void firstStepAndOthers() {
        Check.topic("15 STEP of an INSTRUCTION (the first one 0); if the pipe does not WAIT: 0, 1, 2 .. BAD");
        for (int size = 1; size <= 6; size++) {
            FlushedPipes x = Check.told("u00;".repeat(size));
            x.tells(3, 0, 0);
            for (int k = 0; k < size; k++) {
                Check.due("step(" + k + ")", x.step(k), k);
            }
            Check.due("step(-1)", x.step(-1), Check.BAD);
            Check.due("step(" + size + ")", x.step(size), Check.BAD);
            x.tells(3, 0, 1);
            for (int k = 0; k < size; k++) {
                Check.due("step(" + k + "), waiting", x.step(k), 4 * k);
            }
            Check.due("step(-1), waiting", x.step(-1), Check.BAD);
            Check.due("step(" + size + "), waiting", x.step(size), Check.BAD);
        }
    }

    private static void waitsForTheLeastStep() {
        Check.topic("WAITS: the least STEP by which the latest INSTRUCTION that makes this is VISIBLE");
        for (int distance = 1; distance <= 5; distance++) {
            FlushedPipes x = Check.told("u01;" + nothings(distance - 1) + "u20;");
            for (int lag = 0; lag <= 3; lag++) {
                for (int forwards = 0; forwards <= 7; forwards++) {
                    x.tells(lag, forwards, 1);
                    int want = distance;
                    while (!shows(lag, forwards, want)) {
                        want++;
                    }
                    String pipe = distance + " by " + lag + ", " + forwards;
                    Check.due("step at " + pipe, x.step(distance), want);
                    Check.due("step ahead of it at " + pipe, x.step(distance - 1), distance - 1);
                    Check.due("length() at " + pipe, x.length(), want + 1 + lag);
                    Check.due("wrong() at " + pipe, x.wrong(), 0);
                    Check.due("deep(2, 1) at " + pipe, x.deep(2, 1), 2);
                }
            }
        }
    }

    private static void dueSecondStep(String text, int want) {
        FlushedPipes x = Check.told(text);
        x.tells(3, 0, 1);
        Check.due("step(0) of '" + text + "'", x.step(0), 0);
        Check.due("step(1) of '" + text + "'", x.step(1), want);
    }

    private static void waitsForWhatItReads() {
        Check.topic("WAITS: for each REGISTER that it reads, and for no other");
        dueSecondStep("u01;n;", 1);
        dueSecondStep("n;u00;", 1);
        dueSecondStep("u01;u01;", 1);
        dueSecondStep("u01;u02;", 1);
        dueSecondStep("u10;u20;", 1);
        dueSecondStep("u01;u10;", 4);
        dueSecondStep("u01;o211;", 1);
        dueSecondStep("u01;o011;", 1);
        dueSecondStep("u01;o201;", 4);
        dueSecondStep("u01;o210;", 4);
        dueSecondStep("u01;o200;", 4);
        dueSecondStep("o011;o000;", 4);
        Check.topic("WAITS: the latest that makes it, not an older one");
        FlushedPipes x = Check.told("u01;u02;u30;");
        x.tells(3, 2, 1);
        Check.due("step(2)", x.step(2), 3);
        Check.dueTerm(x, 3, 1, "ffc");
        Check.topic("WAITS: most steps that there may be");
        x = Check.told("o000;o000;o000;o000;o000;o000;");
        x.tells(3, 0, 1);
        Check.due("step(5)", x.step(5), 20);
        Check.due("length()", x.length(), 24);
    }

    private static void lengthRange() {
        Check.topic("16 LENGTH: the last STEP and 1 and LAG (0 without INSTRUCTIONS)");
        for (int size = 0; size <= 6; size++) {
            FlushedPipes x = Check.told(nothings(size));
            for (int lag = 0; lag <= 3; lag++) {
                for (int waits = 0; waits <= 1; waits++) {
                    x.tells(lag, 0, waits);
                    Check.due("length() of " + size + " by " + lag, x.length(), size == 0 ? 0 : size + lag);
                }
            }
        }
        FlushedPipes x = new FlushedPipes();
        x.puts(0, 0, 0, 0, 0);
        Check.due("length() of one", x.length(), 3);
        x.undo();
        Check.due("length() of none again", x.length(), 0);
    }

    private static void wrongRange() {
        Check.topic("17 WRONG (bits)");
        Check.due("wrong() without INSTRUCTIONS", new FlushedPipes().wrong(), 0);
        Check.due("wrong() of nothings", Check.told(nothings(6)).wrong(), 0);
        for (int r = 0; r <= 3; r++) {
            FlushedPipes x = Check.told("u" + r + r + ";u" + r + r + ";");
            Check.due("wrong() of " + r, x.wrong(), 1 << r);
            x.tells(0, 0, 0);
            Check.due("wrong() of " + r + " by LAG 0", x.wrong(), 0);
        }
        FlushedPipes x = Check.told("u00;u00;u10;u20;u30;");
        x.tells(3, 0, 0);
        Check.due("wrong(): all are", x.wrong(), 15);
        x.tells(3, 7, 0);
        Check.due("wrong(): none is", x.wrong(), 0);
        x.tells(3, 0, 1);
        Check.due("wrong(): none is, waiting", x.wrong(), 0);
    }

    private static void neededRange() {
        Check.topic("18 NEEDED: each of FORWARDS 0 to 7");
        for (int forwards = 0; forwards <= 7; forwards++) {
            StringBuilder text = new StringBuilder("u01;");
            for (int distance = 1; distance <= 3; distance++) {
                text.append((forwards >> distance - 1 & 1) == 1 ? "u" + distance + "0;" : "n;");
            }
            FlushedPipes x = Check.told(text.toString());
            for (int lag = 0; lag <= 3; lag++) {
                for (int pipe = 0; pipe <= 15; pipe += 5) {
                    x.tells(lag, pipe / 2, pipe % 2);
                    int want = forwards & (1 << lag) - 1;
                    Check.due("needed() of '" + text + "' by " + lag, x.needed(), want);
                }
            }
        }
    }

    private static void neededOfNothing() {
        Check.topic("18 NEEDED without INSTRUCTIONS; by FACTS that are in");
        FlushedPipes x = new FlushedPipes();
        for (int lag = 0; lag <= 3; lag++) {
            x.tells(lag, 7, 1);
            Check.due("needed() by " + lag, x.needed(), 0);
        }
        x = Check.told("=ab;=faa;!cc;u00;u00;");
        Check.due("needed(): all is RULED OUT", x.needed(), 0);
        x.leaves(2);
        Check.due("needed() by a FACT", x.needed(), 0);
        x.leaves(1);
        Check.due("needed() without it", x.needed(), 1);
    }

    private static void fewestRange() {
        Check.topic("19 FEWEST: each number of FACTS, of several the least number");
        String[] chain = {"=ffab;", "=bc;", "=cd;", "=dgaa;", "=gaagab;", "=gabfa;"};
        FlushedPipes x = Check.told(String.join("", chain) + "u00;u00;");
        Check.due("all six", x.fewest(), 63);
        for (int fact = 0; fact <= 5; fact++) {
            x.leaves(fact);
            Check.due("without " + fact, x.fewest(), Check.NONE);
            x.leaves(fact);
        }
        for (int fact = 0; fact <= 5; fact++) {
            String text = "=bc;=cd;=bc;=cd;=bc;=cd;";
            text = text.substring(0, 4 * fact) + "=faa;" + text.substring(4 * fact + 4) + "u00;u00;";
            x = Check.told(text);
            Check.due("one alone", x.fewest(), 1 << fact);
            x.leaves(fact);
            Check.due("without it", x.fewest(), Check.NONE);
        }
        x = Check.told("=faa;=faa;=faa;=faa;=faa;=faa;u00;u00;");
        for (int fact = 0; fact <= 5; fact++) {
            Check.due("of several the least", x.fewest(), 1 << fact);
            x.leaves(fact);
        }
        Check.due("none is in", x.fewest(), Check.NONE);
        x = Check.told("=ab;=fab;=faa;u00;u00;");
        Check.due("as few as may be, though two have the lesser number", x.fewest(), 4);
    }

    private static void fewestOfNothing() {
        Check.topic("19 FEWEST without FACTS, without INSTRUCTIONS; NONE");
        Check.due("a new object", new FlushedPipes().fewest(), 0);
        Check.due("no FACTS, RIGHT", Check.told("u00;").fewest(), 0);
        Check.due("no FACTS, not RIGHT", Check.told("u00;u00;").fewest(), Check.NONE);
        Check.due("no INSTRUCTIONS", Check.told(States.SIX_FACTS).fewest(), 0);
        Check.due("RIGHT by none of six", Check.told("=ab;=ab;=ab;=ab;=ab;=ab;n;").fewest(), 0);
        FlushedPipes x = Check.told("=ab;u00;u00;");
        Check.due("FACTS that do not do", x.fewest(), Check.NONE);
        x.tells(2, 1, 0);
        Check.due("as THE PIPE is", x.fewest(), 0);
        x.tells(2, 0, 1);
        Check.due("as THE PIPE is, waiting", x.fewest(), 0);
    }

    private static void brokenRange() {
        Check.topic("20 BROKEN: how many INSTRUCTIONS (k = -1), the k-th (0 on) as a number; NONE. BAD (k below -1)");
        int[][] pipes = {{1, 0}, {3, 1}, {3, 3}, {0, 0}, {3, 7}, {0, 7}, {1, 1}, {2, 3}, {1, 6}, {2, 5}, {3, 5}, {3, 6}};
        int[][] programs = {{0, 0}, {0, 4, 0}, {0, 4, 4, 0}, {}, {}, {}, {}, {}, {0, 0}, {0, 4, 0}, {0, 4, 0}, {0, 0}};
        for (int i = 0; i < pipes.length; i++) {
            FlushedPipes x = new FlushedPipes();
            x.tells(pipes[i][0], pipes[i][1], 0);
            int[] program = programs[i];
            String pipe = " by " + pipes[i][0] + ", " + pipes[i][1];
            Check.due("broken(-2)" + pipe, x.broken(-2), Check.BAD);
            Check.due("broken(-1)" + pipe, x.broken(-1), program.length == 0 ? Check.NONE : program.length);
            for (int k = 0; k < program.length; k++) {
                Check.due("broken(" + k + ")" + pipe, x.broken(k), program[k]);
            }
            for (int k : new int[] {program.length, program.length + 1, 4, 5, 6, MAX}) {
                Check.due("broken(" + k + ")" + pipe, x.broken(k), Check.NONE);
            }
            x.tells(pipes[i][0], pipes[i][1], 1);
            Check.due("broken(-2), waiting" + pipe, x.broken(-2), Check.BAD);
            Check.due("broken(-1), waiting" + pipe, x.broken(-1), Check.NONE);
            Check.due("broken(0), waiting" + pipe, x.broken(0), Check.NONE);
            x.undo();
            Check.due("broken(-1), undone" + pipe, x.broken(-1), program.length == 0 ? Check.NONE : program.length);
        }
    }

    private static void brokenWithoutFactsAndProgram() {
        Check.topic("20 BROKEN (no FACTS), whatever THE PROGRAM is");
        FlushedPipes x = Check.told("!aa;=gaaa;=ab;n;n;n;n;n;n;");
        Check.due("broken(-1)", x.broken(-1), 2);
        Check.due("broken(0)", x.broken(0), 0);
        Check.due("broken(1)", x.broken(1), 0);
        Check.due("broken(2)", x.broken(2), Check.NONE);
        Check.due("count(2)", x.count(2), 6);
        Check.due("count(8)", x.count(8), 0);
        Check.due("instruction(0, 0)", x.instruction(0, 0), 0);
    }
}
