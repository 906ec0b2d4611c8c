/** Promises 12 and 13: check and fault. */
public final class FaultsTest {
    public static void main(String[] args) {
        Due due = new Due();
        wrongInputs(due);
        finalAndAccess(due);
        results(due);
        hidden(due);
        ofItself(due);
        withoutFaults(due);
        leftAbstract(due);
        madeAbstractAgain(due);
        metByChance(due);
        fights(due);
        interfacesAreSpared(due);
        order(due);
        mostOfAll(due);
        due.end();
    }

    private static void wrongInputs(Due due) {
        OverrideRules x = new OverrideRules();
        due.is("no type", x.check(0), Due.UNKNOWN);
        due.is("no type", x.fault(0, 0, 0), Due.UNKNOWN);
        due.is("UNKNOWN before OUTSIDE", x.fault(0, 0, 9), Due.UNKNOWN);
        x.type(Due.CLASS, 0, Due.NONE);
        x.member(0, 0, 16, Due.MARKED);
        due.is("type -1", x.check(-1), Due.UNKNOWN);
        due.is("type -1", x.fault(-1, 0, 0), Due.UNKNOWN);
        due.is("type 1", x.check(1), Due.UNKNOWN);
        due.is("what -1", x.fault(0, 0, -1), Due.OUTSIDE);
        due.is("what 3", x.fault(0, 0, 3), Due.OUTSIDE);
        due.is("what before a missing fault", x.fault(0, 5, 3), Due.OUTSIDE);
        due.is("fault -1", x.fault(0, -1, 0), Due.NONE);
        due.is("fault least", x.fault(0, Integer.MIN_VALUE, 1), Due.NONE);
        due.is("fault most", x.fault(0, Integer.MAX_VALUE, 1), Due.NONE);
        due.is("fault 1", x.fault(0, 1, 0), Due.NONE);
        due.is("fault 0", x.fault(0, 0, 0), 6);
    }

    private static OverrideRules pair(int a, int b) {
        return Trees.pair(a, b, 0);
    }

    private static void finalAndAccess(Due due) {
        due.faults("over a final one", pair(1, 17), 1, 2, 1, 0);
        due.faults("final itself", pair(17, 1), 1);
        due.faults("a private final one is not overridden", pair(1, 20), 1);
        int[] rising = {Due.PRIVATE, Due.PACKAGE, Due.PROTECTED, Due.PUBLIC};
        for (int a = 0; a < 4; a++) {
            for (int b = 1; b < 4; b++) {
                String what = "access " + a + " over " + b;
                if (a < b) {
                    due.faults(what, pair(rising[a], rising[b]), 1, 3, 1, 0);
                } else {
                    due.faults(what, pair(rising[a], rising[b]), 1);
                }
            }
        }
        OverrideRules x = new OverrideRules();
        x.type(Due.INTERFACE, 0, Due.NONE);
        x.type(Due.INTERFACE, 0, Due.NONE);
        x.face(1, 0);
        x.member(0, 0, 16, Due.ABSTRACT);
        x.member(1, 0, 16, Due.DEFAULT | Due.PUBLIC);
        x.member(0, 1, 16, Due.ABSTRACT | Due.PUBLIC);
        x.member(1, 1, 16, Due.DEFAULT);
        due.faults("in an interface all is public", x, 1);
        x.member(0, 2, 16, Due.DEFAULT);
        x.member(1, 2, 16, Due.PRIVATE);
        due.faults("but for private ones", x, 1, 3, 5, 4);
    }

    private static void results(Due due) {
        for (int a = 0; a < 20; a++) {
            for (int b = 0; b < 20; b++) {
                OverrideRules x = new OverrideRules();
                x.type(Due.CLASS, 0, Due.NONE);
                x.type(Due.CLASS, 0, 0);
                x.type(Due.INTERFACE, 0, Due.NONE);
                for (int t = 3; t < 16; t++) {
                    x.type(Due.INTERFACE, 0, Due.NONE);
                    x.face(t, t - 1);
                }
                x.member(0, 0, b, 1);
                x.member(1, 0, a, 1);
                boolean suits = a == b || a < 16 && b < 16
                        && (a >= 2 && b >= 2 && a > b || a == 1 && b == 0);
                due.is("result " + a + " for " + b, x.check(1), suits ? 0 : 1);
            }
        }
        OverrideRules x = new OverrideRules();
        x.type(Due.INTERFACE, 0, Due.NONE);
        x.type(Due.CLASS, 0, Due.NONE);
        x.type(Due.CLASS, 0, 1);
        x.member(1, 0, 0, 1);
        x.member(2, 0, 2, 1);
        due.faults("not yet below", x, 2, 4, 1, 0);
        x.face(1, 0);
        due.faults("below by a face told later", x, 2);
    }

    private static void hidden(Due due) {
        OverrideRules x = new OverrideRules();
        x.type(Due.CLASS, 0, Due.NONE);
        x.type(Due.CLASS, 0, 0);
        x.thrown0(Due.NONE, true);
        x.member(0, 0, 16, Due.PUBLIC | Due.STATIC | Due.FINAL);
        x.member(1, 0, 17, Due.STATIC | Due.MARKED);
        x.throws0(1, 0);
        due.faults("all of a hidden one", x, 1,
                2, 1, 0, 3, 1, 0, 4, 1, 0, 5, 1, 0, 6, 1, Due.NONE);
        due.faults("none of the class above", x, 0);
    }

    private static void ofItself(Due due) {
        for (int kind = 0; kind < 3; kind++) {
            OverrideRules x = new OverrideRules();
            x.type(kind, 0, Due.NONE);
            x.member(0, 0, 16, Due.ABSTRACT | Due.MARKED);
            if (kind == Due.CLASS) {
                due.faults("in a CLASS", x, 0, 6, 0, Due.NONE, 7, 0, Due.NONE);
            } else {
                due.faults("in kind " + kind, x, 0, 6, 0, Due.NONE);
            }
        }
        OverrideRules x = pair(Due.PUBLIC | Due.MARKED, Due.PUBLIC | Due.MARKED);
        due.faults("marked and overrides", x, 1);
        due.faults("marked and overrides none", x, 0, 6, 0, Due.NONE);
    }

    private static void withoutFaults(Due due) {
        for (int kind = 0; kind < 3; kind++) {
            OverrideRules x = new OverrideRules();
            x.type(kind, 0, Due.NONE);
            due.faults("kind " + kind + ", no members", x, 0);
            x.member(0, 0, 16, kind == Due.INTERFACE ? Due.DEFAULT : Due.FINAL);
            due.faults("kind " + kind + ", one that is right", x, 0);
        }
    }

    private static void madeAbstractAgain(Due due) {
        OverrideRules x = new OverrideRules();
        x.type(Due.CLASS, 0, Due.NONE);
        x.type(Due.ABSTRACT_CLASS, 0, 0);
        x.type(Due.CLASS, 0, 1);
        x.member(0, 0, 16, Due.PUBLIC);
        x.member(1, 0, 16, Due.PUBLIC | Due.ABSTRACT);
        due.faults("only for the abstract one", x, 2, 9, 1, 1);
        x.member(2, 0, 16, Due.PUBLIC);
        due.faults("and not if it is overridden", x, 2);
        x = Trees.chain(new int[] {0, 1}, new int[] {Due.ABSTRACT, Due.PUBLIC});
        due.faults("one of another package can't be", x, 1, 9, 0, 0);
    }

    /** "8: there is a FIGHT (m is NONE)": of a class, ABSTRACT or not, but of no INTERFACE. */
    private static void fights(Due due) {
        for (int kind = 0; kind < 3; kind++) {
            OverrideRules x = Trees.interfacesAndClass(2, kind);
            x.face(2, 0);
            x.face(2, 1);
            x.member(1, 0, 16, Due.DEFAULT);
            x.member(0, 0, 17, Due.ABSTRACT);
            if (kind == Due.INTERFACE) {
                due.faults("two defaults in an interface", x, 2);
            } else {
                due.faults("two defaults in kind " + kind, x, 2, 8, Due.NONE, 0, 8, Due.NONE, 1);
            }
            x.member(2, 0, 16, kind == Due.INTERFACE ? Due.DEFAULT : Due.PUBLIC);
            due.faults("its own one ends it", x, 2, 4, 2, 1);
        }
    }

    /** "Then, of a class ..": an INTERFACE may leave all as it is. */
    private static void interfacesAreSpared(Due due) {
        OverrideRules x = Trees.interfacesAndClass(2, Due.INTERFACE);
        x.face(2, 0);
        x.face(2, 1);
        x.member(0, 0, 16, Due.ABSTRACT);
        x.member(1, 0, 17, Due.ABSTRACT);
        x.member(1, 1, 17, Due.ABSTRACT);
        due.faults("abstract ones are left", x, 2);
    }

    private static void leftAbstract(Due due) {
        OverrideRules x = new OverrideRules();
        x.type(Due.INTERFACE, 0, Due.NONE);
        x.type(Due.INTERFACE, 0, Due.NONE);
        x.type(Due.ABSTRACT_CLASS, 0, Due.NONE);
        x.type(Due.CLASS, 0, 2);
        x.face(2, 0);
        x.face(2, 1);
        x.member(1, 0, 16, Due.ABSTRACT);
        x.member(0, 0, 16, Due.ABSTRACT);
        x.member(2, 1, 16, Due.ABSTRACT);
        x.member(2, 2, 16, Due.PUBLIC);
        x.member(1, 3, 16, Due.STATIC);
        x.type(Due.INTERFACE, 0, Due.NONE);
        x.member(4, 4, 16, Due.ABSTRACT);
        due.faults("an abstract class may leave them", x, 2);
        due.faults("a CLASS may not", x, 3, 9, 0, 0, 9, 0, 1, 9, 2, 2);
        x.member(3, 0, 16, Due.PUBLIC | Due.ABSTRACT);
        due.faults("its own abstract one is told once", x, 3, 7, 6, Due.NONE, 9, 2, 2);
        x.type(Due.CLASS, 0, 3);
        due.faults("a CLASS below it", x, 5, 9, 6, 0, 9, 6, 1, 9, 2, 2, 9, 6, 6);
    }

    private static void metByChance(Due due) {
        OverrideRules x = new OverrideRules();
        x.type(Due.INTERFACE, 0, Due.NONE);
        x.type(Due.ABSTRACT_CLASS, 1, Due.NONE);
        x.type(Due.ABSTRACT_CLASS, 1, 1);
        x.type(Due.CLASS, 1, 2);
        x.thrown0(Due.NONE, true);
        x.member(1, 0, 17, Due.PROTECTED | Due.ABSTRACT);
        x.member(0, 0, 16, Due.DEFAULT);
        x.throws0(0, 0);
        x.face(2, 0);
        due.faults("in an abstract class", x, 2, 3, 0, 1, 4, 0, 1, 5, 0, 1);
        due.faults("in a CLASS below, and it is abstract", x, 3,
                9, 0, 0, 9, 0, 1, 3, 0, 1, 4, 0, 1, 5, 0, 1);
        due.faults("not in the class that has it", x, 1);
        x.face(1, 0);
        due.faults("the class is below the interface", x, 1, 3, 0, 1, 4, 0, 1, 5, 0, 1);
        due.faults("so it is told there alone", x, 2);
        x = new OverrideRules();
        x.type(Due.INTERFACE, 0, Due.NONE);
        x.type(Due.CLASS, 0, Due.NONE);
        x.face(1, 0);
        x.member(0, 0, 16, Due.ABSTRACT);
        x.member(1, 0, 17, Due.PUBLIC);
        due.faults("of the TYPE itself once", x, 1, 4, 1, 0);
    }

    private static void order(Due due) {
        OverrideRules x = new OverrideRules();
        x.type(Due.INTERFACE, 0, Due.NONE);
        x.type(Due.INTERFACE, 0, Due.NONE);
        x.type(Due.ABSTRACT_CLASS, 0, Due.NONE);
        x.type(Due.CLASS, 0, 2);
        x.face(3, 0);
        x.face(3, 1);
        x.member(3, 5, 16, Due.PUBLIC | Due.STATIC | Due.MARKED);
        x.member(3, 4, 16, Due.ABSTRACT);
        x.member(2, 4, 17, Due.PUBLIC | Due.FINAL);
        x.member(2, 5, 17, Due.PUBLIC);
        x.member(1, 6, 17, Due.DEFAULT);
        x.member(0, 6, 17, Due.ABSTRACT);
        x.member(0, 4, 18, Due.ABSTRACT);
        x.member(2, 7, 16, Due.ABSTRACT);
        due.faults("by m, by o, then of the class", x, 3,
                1, 0, 3, 6, 0, Due.NONE,
                2, 1, 2, 3, 1, 2, 4, 1, 2, 3, 1, 6, 4, 1, 6, 7, 1, Due.NONE,
                8, Due.NONE, 4, 8, Due.NONE, 5, 9, 7, 7);
        due.is("of all types", x.told(3), 11);
    }

    /** 60 members of which each of the last four is wrong in all ways with each of 14 above it. */
    private static void mostOfAll(Due due) {
        OverrideRules x = new OverrideRules();
        for (int t = 0; t < 15; t++) {
            x.type(Due.CLASS, 0, t - 1);
        }
        x.thrown0(Due.NONE, true);
        for (int m = 0; m < 60; m++) {
            boolean isLast = m >= 56;
            x.member(m / 4, m % 4, isLast ? 17 : 16, isLast ? Due.PACKAGE : Due.PUBLIC | Due.FINAL);
            if (isLast) {
                x.throws0(m, 0);
            }
        }
        due.is("of the last", x.check(14), 4 * 14 * 4);
        due.is("of the one before", x.check(13), 4 * 13);
        int last = 4 * 14 * 4 - 1;
        due.is("the last one's code", x.fault(14, last, 0), 5);
        due.is("the last one's m", x.fault(14, last, 1), 59);
        due.is("the last one's o", x.fault(14, last, 2), 55);
        due.is("no more", x.fault(14, last + 1, 0), Due.NONE);
        due.is("of all", x.told(3), 4 * 14 * 4 + 4 * (13 * 14 / 2));
    }
}
