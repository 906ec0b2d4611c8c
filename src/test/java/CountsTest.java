/** Promises 14, 15 and 16: bridges, first and told. */
public final class CountsTest {
    public static void main(String[] args) {
        Due due = new Due();
        wrongInputs(due);
        bridges(due);
        bridgesOfInterfaces(due);
        bridgesOverAll(due);
        first(due);
        firstOfNoOverriders(due);
        told(due);
        due.end();
    }

    private static void wrongInputs(Due due) {
        OverrideRules x = new OverrideRules();
        for (int type : new int[] {-1, 0, 1, 16, Integer.MIN_VALUE, Integer.MAX_VALUE}) {
            due.is("bridges of " + type, x.bridges(type), Due.UNKNOWN);
            due.is("first of " + type, x.first(type), Due.UNKNOWN);
        }
        for (int what : new int[] {-1, 4, Integer.MIN_VALUE, Integer.MAX_VALUE}) {
            due.is("told " + what, x.told(what), Due.OUTSIDE);
        }
    }

    private static void bridges(Due due) {
        OverrideRules x = new OverrideRules();
        for (int t = 0; t < 5; t++) {
            x.type(Due.ABSTRACT_CLASS, 0, t - 1);
        }
        due.is("no members", x.bridges(4), 0);
        int[] results = {0, 1, 0, 3, 3};
        for (int t = 0; t < 5; t++) {
            x.member(t, 0, results[t], Due.PUBLIC);
            x.member(t, 1, results[t], Due.PUBLIC | Due.STATIC);
            x.member(t, 2, results[t], Due.PUBLIC | Due.ABSTRACT);
        }
        due.is("nothing above", x.bridges(0), 0);
        due.is("one", x.bridges(1), 1);
        due.is("two above, one of its own result", x.bridges(2), 1);
        due.is("the same result twice is one", x.bridges(3), 2);
        due.is("its own result does not count", x.bridges(4), 2);
        x.member(0, 3, 16, Due.PUBLIC);
        x.member(4, 3, 19, Due.PRIVATE);
        due.is("of all its members, private ones too", x.bridges(4), 3);
    }

    private static void bridgesOfInterfaces(Due due) {
        OverrideRules x = new OverrideRules();
        x.type(Due.INTERFACE, 0, Due.NONE);
        x.type(Due.INTERFACE, 0, Due.NONE);
        x.type(Due.INTERFACE, 0, Due.NONE);
        x.face(1, 0);
        x.face(2, 0);
        x.member(0, 0, 0, Due.ABSTRACT);
        x.member(1, 0, 1, Due.DEFAULT);
        x.member(2, 0, 2, Due.ABSTRACT);
        due.is("a default one", x.bridges(1), 1);
        due.is("an abstract one", x.bridges(2), 0);
        x = new OverrideRules();
        x.type(Due.CLASS, 0, Due.NONE);
        x.type(Due.CLASS, 0, 0);
        x.member(1, 0, 1, Due.PUBLIC);
        x.member(0, 0, 0, Due.PUBLIC);
        due.is("the first member of all, told before the one above", x.bridges(1), 1);
        due.is("and it is the first of its type", x.first(1), 0);
    }

    private static void first(Due due) {
        OverrideRules x = new OverrideRules();
        x.type(Due.CLASS, 0, Due.NONE);
        x.type(Due.CLASS, 0, 0);
        x.type(Due.CLASS, 0, 1);
        x.member(0, 1, 16, 0);
        x.member(0, 2, 16, 0);
        x.member(1, 2, 16, 0);
        due.is("none of its own", x.first(2), Due.NONE);
        x.member(2, 0, 16, 0);
        due.is("overrides none", x.first(2), 3);
        x.member(2, 7, 16, 0);
        due.is("the least number", x.first(2), 3);
        x.member(2, 1, 16, 0);
        due.is("overrides one", x.first(2), 5);
        x.member(2, 2, 16, 0);
        due.is("overrides two", x.first(2), 6);
        x.member(1, 1, 16, 0);
        due.is("both override two", x.first(2), 5);
        due.is("of several the least", x.first(1), 2);
    }

    private static void told(Due due) {
        OverrideRules x = new OverrideRules();
        x.type(Due.CLASS, 0, Due.NONE);
        x.type(Due.CLASS, 0, 0);
        x.type(Due.CLASS, 0, 0);
        x.thrown0(Due.NONE, true);
        x.thrown0(Due.NONE, true);
        x.member(0, 0, 16, Due.PUBLIC);
        x.member(1, 0, 17, Due.PUBLIC);
        x.member(2, 0, 18, Due.PACKAGE);
        x.member(0, 1, 18, Due.MARKED);
        due.is("types", x.told(0), 3);
        due.is("throws", x.told(1), 2);
        due.is("members", x.told(2), 4);
        due.is("faults of all", x.told(3), 4);
        x = Trees.full();
        due.is("types when full", x.told(0), 16);
        due.is("throws when full", x.told(1), 8);
        due.is("members when full", x.told(2), 60);
        int sum = 0;
        for (int t = 0; t < 16; t++) {
            sum += x.check(t);
        }
        due.is("faults when full", x.told(3), sum);
    }

    /** Each RESULT that there is, 0 and 19 among them, counts once, and the own one does not. */
    private static void bridgesOverAll(Due due) {
        for (int own = 0; own < 20; own++) {
            OverrideRules x = new OverrideRules();
            for (int t = 0; t < 16; t++) {
                x.type(Due.CLASS, 0, t - 1);
            }
            for (int t = 0; t < 10; t++) {
                x.member(t, 0, t, Due.PUBLIC);
                x.member(t, 1, 10 + t, Due.PUBLIC);
            }
            for (int t = 10; t < 15; t++) {
                x.member(t, 0, t % 3, Due.PUBLIC);
            }
            x.member(15, 0, own, Due.PUBLIC);
            due.is("over 0 to 9, own " + own, x.bridges(15), own < 10 ? 9 : 10);
            x.member(15, 1, own, Due.PUBLIC);
            due.is("over 10 to 19 too, own " + own, x.bridges(15), 19);
        }
    }

    /** "NONE: it has none": no MEMBERS; one that OVERRIDES none is still the first. */
    private static void firstOfNoOverriders(Due due) {
        for (int kind = 0; kind < 3; kind++) {
            OverrideRules x = new OverrideRules();
            x.type(kind, 0, Due.NONE);
            x.type(kind, 0, Due.NONE);
            due.is("no members at all", x.first(0), Due.NONE);
            x.member(1, 0, 16, Due.STATIC);
            due.is("only another type has some", x.first(0), Due.NONE);
            x.member(0, 7, 16, Due.STATIC);
            x.member(0, 0, 16, Due.STATIC);
            due.is("static ones", x.first(0), 1);
        }
    }
}
