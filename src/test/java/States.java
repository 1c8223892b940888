/** Objects in three states, from which the tests of edges start. */
enum States implements Sight.Making {
    /** As it was made. */
    NEW,
    /** Some of all: 3 facts, 3 instructions, a text, an image, 2 seen, 3 that may be undone. */
    SOME,
    /** As much of all as there may be. */
    FULL;

    static final String SOME_TEXT = "=ab;!fac;=gabd;u01;o210;n;";
    static final String SIX_FACTS = "=ab;!fac;=gabd;=cd;!ad;=ffab;";
    static final String SIX_INSTRUCTIONS = "u00;o210;n;u11;o302;u33;";
    static final int TEXT_LIMIT = 100;

    @Override
    public FlushedPipes make() {
        switch (this) {
            case NEW:
                return new FlushedPipes();
            case SOME:
                return some();
            default:
                return full();
        }
    }

    int facts() {
        return this == NEW ? 0 : this == SOME ? 3 : 6;
    }

    int instructions() {
        return this == NEW ? 0 : this == SOME ? 3 : 6;
    }

    private static FlushedPipes some() {
        FlushedPipes x = Check.told(SOME_TEXT);
        Check.due("leaves(1)", x.leaves(1), 0);
        Check.due("keep(1)", x.keep(1), 3);
        Check.due("puts(1, ..)", x.puts(1, 2, 3, 0, 1), 3);
        Check.due("sees(8)", x.sees(8), 1);
        Check.due("tells(3, 4, 0)", x.tells(3, 4, 0), 1);
        Check.due("sees(8)", x.sees(8), 2);
        Check.type(x, "u32; !ab;");
        return x;
    }

    private static FlushedPipes full() {
        FlushedPipes x = Check.told(SIX_FACTS + SIX_INSTRUCTIONS);
        Check.due("keep(0)", x.keep(0), 6);
        for (int i = 1; i <= 4; i++) {
            Check.due("sees(12)", x.sees(12), i);
        }
        for (int i = 0; i < 4; i++) {
            Check.due("tells", x.tells(i, 7 - i, i % 2), 1);
            Check.due("leaves", x.leaves(i), 0);
            Check.due("puts", x.puts(i + 1, 2, i, 3 - i, i), 6);
        }
        Check.due("keep(1)", x.keep(1), 6);
        Check.type(x, padded(SIX_INSTRUCTIONS + SIX_FACTS));
        return x;
    }

    /** With blanks behind it, so that the text is full. */
    static String padded(String text) {
        return text + " ".repeat(TEXT_LIMIT - text.length());
    }
}
