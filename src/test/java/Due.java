/** Compares answers with those that are due, and ends a test with exit code 1 if one differs. */
final class Due {
    static final int NONE = -1;
    static final int UNKNOWN = -2;
    static final int OUTSIDE = -3;
    static final int ROOM = -4;
    static final int FIGHT = -5;

    static final int CLASS = 0;
    static final int ABSTRACT_CLASS = 1;
    static final int INTERFACE = 2;

    static final int PACKAGE = 0;
    static final int PUBLIC = 1;
    static final int PROTECTED = 2;
    static final int PRIVATE = 4;
    static final int STATIC = 8;
    static final int FINAL = 16;
    static final int ABSTRACT = 32;
    static final int DEFAULT = 64;
    static final int MARKED = 128;

    private int asked = 0;
    private int wrong = 0;

    void is(String what, int got, int want) {
        asked++;
        if (got != want) {
            wrong++;
            System.out.println(what + ": answered " + got + ", due is " + want);
        }
    }

    void holds(String what, boolean holds) {
        is(what, holds ? 1 : 0, 1);
    }

    /** The FAULTS of a type as rows of code, m, o, and that there are no more of them. */
    void faults(String what, OverrideRules x, int type, int... rows) {
        int count = rows.length / 3;
        is(what + ", how many", x.check(type), count);
        for (int i = 0; i < rows.length; i++) {
            is(what + ", fault " + i / 3 + " part " + i % 3, x.fault(type, i / 3, i % 3), rows[i]);
        }
        for (int part = 0; part < 3; part++) {
            is(what + ", after the last", x.fault(type, count, part), NONE);
        }
    }

    void end() {
        System.out.println(asked + " answers, " + wrong + " of them wrong");
        if (wrong != 0 || asked == 0) {
            System.exit(1);
        }
    }
}
