/** Promises 10 to 12: what follows from facts, and what they rule out. */
public final class FactsTest {
    public static void main(String[] args) {
        fact();
        factLeftOut();
        deepChains();
        spreads();
        allIsRuledOut();
        ruled();
        equal();
        equalWays();
        Check.end();
    }

    private static void fact() {
        Check.topic("10 fact");
        FlushedPipes x = Check.told("=ab;!fafc;");
        Check.due("fact(0)", x.fact(0), 1);
        Check.due("fact(1)", x.fact(1), 2);
        Check.due("fact(2)", x.fact(2), Check.BAD);
        Check.due("fact(-1)", x.fact(-1), Check.BAD);
        Check.due("fact(max)", x.fact(Integer.MAX_VALUE), Check.BAD);
        Check.due("fact(min)", x.fact(Integer.MIN_VALUE), Check.BAD);
    }

    private static void factLeftOut() {
        Check.topic("10 fact, left out");
        FlushedPipes x = Check.told("=ab;!fafc;=bc;=gabgac;");
        Check.due("all in: ruled()", x.ruled(), 1);
        Check.due("all is ruled out: fact(1)", x.fact(1), 1);
        x.leaves(2);
        Check.due("fact(2) would rule out all", x.fact(2), 2);
        Check.due("fact(1)", x.fact(1), 2);
        Check.due("fact(3)", x.fact(3), 1);
        x.leaves(3);
        Check.due("fact(3) is not ruled out: g is unknown", x.fact(3), 0);
        x.leaves(0);
        Check.due("fact(0)", x.fact(0), 0);
        Check.due("fact(2)", x.fact(2), 0);
        x.leaves(1);
        Check.due("fact(1)", x.fact(1), 0);
        x.leaves(2);
        Check.due("fact(2)", x.fact(2), 1);
        Check.due("fact(3): g of equal ones", x.fact(3), 1);
        Check.due("fact(1): a is left alone", x.fact(1), 0);
        x.leaves(0);
        Check.due("fact(1): f of equal ones", x.fact(1), 1);
    }

    private static void deepChains() {
        Check.topic("10 fact, chains");
        FlushedPipes x = Check.told("=fffaa;=ffffa fa;=ffa fffa;!faa;");
        Check.due("ruled(): f a is a by the first and third", x.ruled(), 1);
        x.leaves(3);
        Check.due("fact(3)", x.fact(3), 1);
        x.leaves(2);
        Check.due("fact(3)", x.fact(3), 0);
        x = Check.told("=gabc;=gcbd;!ggabbd;");
        Check.due("ruled()", x.ruled(), 1);
        x.leaves(0);
        Check.due("ruled()", x.ruled(), 0);
        Check.due("fact(2)", x.fact(2), 2);
        Check.due("fact(0) would make them equal", x.fact(0), 2);
        x = Check.told("=ab;=gab gba;!gaagbb;=gac gca;");
        Check.due("fact(1)", x.fact(1), 1);
        Check.due("ruled()", x.ruled(), 1);
        x.leaves(2);
        x.leaves(3);
        Check.due("fact(3): g has no order of its own", x.fact(3), 0);
        x = Check.told("!fab;!fbc;=fa fb;");
        Check.due("fact(0): unlike, as told", x.fact(0), 2);
        Check.due("f of a and b are equal, a and b need not be", x.equal(0, 1, 0), 0);
    }

    /** What follows of later terms reaches terms that were told ahead of them. */
    private static void spreads() {
        Check.topic("10 fact, by what follows later");
        FlushedPipes x = Check.told("!fafb;=gcca;=gddb;=cd;");
        Check.due("ruled()", x.ruled(), 1);
        x.leaves(3);
        Check.due("ruled()", x.ruled(), 0);
        Check.due("fact(3)", x.fact(3), 2);
        x = Check.told("!gaba;!gaaa;!gada;!gabgac;=bc;");
        Check.due("ruled(): g a c is g a b, with others of g a between", x.ruled(), 1);
        x.leaves(3);
        Check.due("ruled()", x.ruled(), 0);
        Check.due("fact(3)", x.fact(3), 1);
        x = Check.told("=ab;!faga b;!fbgbb;");
        Check.due("ruled(): f is not g, whatever they are of", x.ruled(), 0);
    }

    private static void allIsRuledOut() {
        Check.topic("10, 12 all is ruled out");
        FlushedPipes x = Check.told("!cc;=ab;!ad;u01;u13;");
        x.leaves(1);
        Check.due("fact(0)", x.fact(0), 1);
        Check.due("fact(1)", x.fact(1), 1);
        Check.due("fact(2)", x.fact(2), 1);
        Check.due("equal(0, 1, 0)", x.equal(0, 1, 0), 1);
        Check.due("equal(2, 3, 2)", x.equal(2, 3, 2), 1);
        x.leaves(0);
        Check.due("fact(0)", x.fact(0), 1);
        Check.due("fact(1)", x.fact(1), 0);
        Check.due("fact(2)", x.fact(2), 2);
        Check.due("equal(0, 1, 0)", x.equal(0, 1, 0), 0);
    }

    private static void ruled() {
        Check.topic("11 ruled");
        Check.due("ruled()", Check.told("!aa;").ruled(), 1);
        Check.due("ruled()", Check.told("!ab;").ruled(), 0);
        Check.due("ruled()", Check.told("!gabgab;n;").ruled(), 1);
        Check.due("ruled()", Check.told("=ab;=cd;!ac;").ruled(), 0);
        Check.due("ruled()", Check.told("=ab;=cd;=bd;!ac;").ruled(), 1);
        Check.due("ruled()", Check.told("=fab;=gbbc;!ggfafaa gca;").ruled(), 1);
        Check.due("ruled()", Check.told("=fafb;!ab;").ruled(), 0);
        FlushedPipes x = Check.told("!aa;!bb;");
        x.leaves(0);
        Check.due("ruled()", x.ruled(), 1);
        x.leaves(1);
        Check.due("ruled()", x.ruled(), 0);
    }

    private static void equal() {
        Check.topic("12 equal");
        FlushedPipes x = Check.told("=ab;!cd;");
        Check.due("equal(0, 1, 0)", x.equal(0, 1, 0), 1);
        Check.due("equal(2, 3, 0)", x.equal(2, 3, 0), 2);
        Check.due("equal(0, 2, 0)", x.equal(0, 2, 0), 0);
        Check.due("equal(2, 2, 0)", x.equal(2, 2, 0), 1);
        int[][] bad = {{-1, 0, 0}, {4, 0, 0}, {0, -1, 0}, {0, 4, 0}, {0, 0, -1}, {0, 0, 3},
            {Integer.MIN_VALUE, 0, 0}, {0, Integer.MAX_VALUE, 0}, {0, 0, Integer.MAX_VALUE}};
        for (int[] b : bad) {
            Check.due("equal" + java.util.Arrays.toString(b), x.equal(b[0], b[1], b[2]), Check.BAD);
        }
        x = Check.told("!fafb;u00;u11;");
        Check.due("unlike as told", x.equal(0, 1, 0), 2);
        Check.due("a and b then, too", x.equal(2, 3, 0), 0);
        x = Check.told("!fafb;n;");
        Check.due("a and b are unlike by f", x.equal(0, 1, 0), 2);
    }

    private static void equalWays() {
        Check.topic("12 equal, ways");
        FlushedPipes x = Check.told("!fffa fa;u00;u10;u21;");
        Check.dueTerm(x, 2, 0, "fffa");
        Check.dueTerm(x, 2, 1, "fb");
        Check.dueTerm(x, 1, 1, "fa");
        Check.due("both plain", x.equal(2, 0, 0), 2);
        Check.due("both piped", x.equal(1, 0, 1), 1);
        Check.due("both plain", x.equal(1, 0, 0), 2);
        Check.due("plain and piped", x.equal(2, 1, 2), 2);
        Check.due("plain and piped", x.equal(1, 2, 2), 0);
        Check.due("plain and piped", x.equal(0, 1, 2), 1);
    }
}
