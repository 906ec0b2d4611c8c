/** Promise 10: chosen. */
public final class ChosenTest {
    public static void main(String[] args) {
        Due due = new Due();
        wrongInputs(due);
        ofClasses(due);
        classesBeforeInterfaces(due);
        ofInterfaces(due);
        covered(due);
        besideOthers(due);
        fights(due);
        fightsOfMore(due);
        overSixteen(due);
        due.end();
    }

    private static void wrongInputs(Due due) {
        OverrideRules x = new OverrideRules();
        x.type(Due.INTERFACE, 0, Due.NONE);
        x.type(Due.CLASS, 0, Due.NONE);
        x.type(Due.CLASS, 0, 1);
        x.type(Due.CLASS, 0, 1);
        x.member(0, 0, 16, Due.DEFAULT);
        x.member(1, 0, 16, Due.STATIC);
        x.member(1, 1, 16, Due.PRIVATE);
        x.member(2, 2, 16, Due.PUBLIC);
        due.is("no such type", x.chosen(4, 0), Due.UNKNOWN);
        due.is("type -1", x.chosen(-1, 0), Due.UNKNOWN);
        due.is("no such member", x.chosen(1, 4), Due.UNKNOWN);
        due.is("member -1", x.chosen(1, -1), Due.UNKNOWN);
        due.is("UNKNOWN before OUTSIDE", x.chosen(0, 4), Due.UNKNOWN);
        due.is("an interface", x.chosen(0, 0), Due.OUTSIDE);
        due.is("static", x.chosen(1, 1), Due.OUTSIDE);
        due.is("private", x.chosen(1, 2), Due.OUTSIDE);
        due.is("of a type below", x.chosen(1, 3), Due.OUTSIDE);
        due.is("of a type beside", x.chosen(3, 3), Due.OUTSIDE);
        due.is("of an interface that is not above", x.chosen(1, 0), Due.OUTSIDE);
        due.is("its own", x.chosen(2, 3), 3);
        x.face(3, 0);
        due.is("of an interface that is above", x.chosen(3, 0), 0);
        x.member(0, 3, 16, Due.STATIC);
        x.member(0, 4, 16, Due.PRIVATE);
        due.is("static, of an interface", x.chosen(3, 4), Due.OUTSIDE);
        due.is("private, of an interface", x.chosen(3, 5), Due.OUTSIDE);
    }

    private static void ofClasses(Due due) {
        OverrideRules x = new OverrideRules();
        int[] packets = {0, 1, 0, 1};
        for (int t = 0; t < 4; t++) {
            x.type(t == 3 ? Due.ABSTRACT_CLASS : Due.CLASS, packets[t], t - 1);
        }
        x.member(2, 0, 16, 0);
        x.member(0, 0, 16, 0);
        x.member(1, 0, 16, 0);
        due.is("overridden two below", x.chosen(2, 1), 0);
        due.is("not overridden in the other package", x.chosen(1, 1), 1);
        due.is("its parent's is no override of it", x.chosen(3, 2), 2);
        due.is("but of the first", x.chosen(3, 1), 0);
        x.member(3, 0, 16, Due.STATIC);
        due.is("a static one is passed over", x.chosen(3, 1), 0);
        x = new OverrideRules();
        x.type(Due.CLASS, 0, Due.NONE);
        x.type(Due.CLASS, 0, 0);
        x.member(0, 0, 16, 1);
        x.member(1, 0, 16, Due.PRIVATE);
        due.is("it overrides", x.overrides(1, 0), 1);
        due.is("but a private one is passed over", x.chosen(1, 0), 0);
    }

    private static void classesBeforeInterfaces(Due due) {
        OverrideRules x = new OverrideRules();
        x.type(Due.INTERFACE, 0, Due.NONE);
        x.type(Due.CLASS, 1, Due.NONE);
        x.type(Due.CLASS, 2, 1);
        x.type(Due.CLASS, 3, 2);
        x.face(3, 0);
        x.member(0, 0, 16, Due.DEFAULT);
        due.is("no class has one", x.chosen(3, 0), 0);
        x.member(1, 0, 16, Due.PACKAGE);
        due.is("whatever it is, far above", x.chosen(3, 0), 1);
        x.member(2, 0, 16, Due.PRIVATE);
        due.is("a private one is passed over", x.chosen(3, 0), 1);
        x.member(3, 0, 16, Due.STATIC);
        due.is("a static one too", x.chosen(3, 0), 1);
        due.is("for the class's own", x.chosen(3, 1), 1);
    }

    private static void ofInterfaces(Due due) {
        OverrideRules x = new OverrideRules();
        for (int t = 0; t < 4; t++) {
            x.type(Due.INTERFACE, 0, Due.NONE);
        }
        x.face(1, 0);
        x.face(2, 1);
        x.type(Due.ABSTRACT_CLASS, 0, Due.NONE);
        x.face(4, 0);
        x.face(4, 2);
        x.member(3, 0, 16, Due.ABSTRACT);
        x.member(0, 0, 16, Due.DEFAULT);
        due.is("the only one", x.chosen(4, 1), 1);
        x.member(2, 0, 16, Due.ABSTRACT);
        due.is("one two below it, and abstract", x.chosen(4, 1), 2);
        x.member(1, 0, 16, Due.DEFAULT);
        due.is("the one between is covered too", x.chosen(4, 3), 2);
        x.face(4, 3);
        due.is("all that are left are abstract: the least number", x.chosen(4, 1), 0);
        due.is("whichever is asked", x.chosen(4, 2), 0);
    }

    private static void fights(Due due) {
        OverrideRules x = new OverrideRules();
        x.type(Due.INTERFACE, 0, Due.NONE);
        x.type(Due.INTERFACE, 0, Due.NONE);
        x.type(Due.CLASS, 0, Due.NONE);
        x.type(Due.CLASS, 0, 2);
        x.face(2, 0);
        x.face(3, 1);
        x.member(0, 0, 16, Due.ABSTRACT);
        due.is("one", x.chosen(3, 0), 0);
        x.member(1, 0, 16, Due.DEFAULT);
        due.is("a default beside an abstract one", x.chosen(3, 0), Due.FIGHT);
        due.is("and for the other", x.chosen(3, 1), Due.FIGHT);
        due.is("not for the parent", x.chosen(2, 0), 0);
        x.member(0, 1, 16, Due.DEFAULT);
        x.member(1, 1, 16, Due.STATIC);
        due.is("a static one does not fight", x.chosen(3, 2), 2);
        x.member(0, 2, 16, Due.DEFAULT);
        x.member(1, 2, 16, Due.PRIVATE);
        due.is("nor a private one", x.chosen(3, 4), 4);
        x.member(2, 0, 16, Due.PROTECTED);
        due.is("a class ends it", x.chosen(3, 1), 6);
    }

    /** "those for which there is no such MEMBER of an INTERFACE above C that is below theirs". */
    private static void covered(Due due) {
        OverrideRules x = Trees.interfacesAndClass(4, Due.CLASS);
        x.face(1, 0);
        x.face(2, 0);
        x.face(3, 0);
        x.face(4, 1);
        x.face(4, 2);
        x.member(0, 0, 16, Due.DEFAULT);
        due.is("one that is above by two ways is one", x.chosen(4, 0), 0);
        x.member(3, 0, 16, Due.DEFAULT);
        due.is("an interface not above C covers nothing", x.chosen(4, 0), 0);
        x.member(0, 1, 16, Due.DEFAULT);
        x.member(1, 1, 16, Due.STATIC);
        due.is("a static one covers nothing", x.chosen(4, 2), 2);
        x.member(0, 2, 16, Due.DEFAULT);
        x.member(1, 2, 16, Due.PRIVATE);
        due.is("a private one covers nothing", x.chosen(4, 4), 4);
        x.member(1, 0, 16, Due.ABSTRACT);
        due.is("covered on one way is covered", x.chosen(4, 0), 6);
        x.member(2, 0, 16, Due.ABSTRACT);
        due.is("two abstract ones below a default one", x.chosen(4, 0), 6);
        due.is("for the other", x.chosen(4, 7), 6);
        x.member(2, 3, 16, Due.ABSTRACT);
        due.is("one of another name does not count", x.chosen(4, 8), 8);
    }

    /** TYPES that are not above C have no say, whatever their numbers and MEMBERS are. */
    private static void besideOthers(Due due) {
        for (int kind = 0; kind < 3; kind++) {
            for (int other = 0; other < 3; other++) {
                OverrideRules x = new OverrideRules();
                for (int t = 0; t < 3; t++) {
                    x.type(t == other ? kind : Due.INTERFACE, 0, Due.NONE);
                }
                x.type(Due.CLASS, 0, Due.NONE);
                int one = other == 0 ? 1 : 0;
                x.face(3, one);
                x.member(one, 0, 16, Due.DEFAULT);
                due.is("kind " + kind + " of number " + other + ", no member", x.chosen(3, 0), 0);
                x.member(other, 0, 16, kind == Due.INTERFACE ? Due.DEFAULT : Due.PUBLIC);
                due.is("and with a member", x.chosen(3, 0), 0);
            }
        }
    }

    private static void fightsOfMore(Due due) {
        int[][] marks = {{32, 32, 32}, {64, 32, 32}, {32, 64, 32}, {32, 32, 64}, {64, 64, 64}};
        for (int[] row : marks) {
            OverrideRules x = Trees.interfacesAndClass(3, Due.ABSTRACT_CLASS);
            boolean anyDefault = false;
            for (int f = 2; f >= 0; f--) {
                x.face(3, f);
                x.member(f, 0, 16, row[f]);
                anyDefault = anyDefault || row[f] == Due.DEFAULT;
            }
            for (int o = 0; o < 3; o++) {
                due.is("three, default: " + anyDefault, x.chosen(3, o), anyDefault ? Due.FIGHT : 0);
            }
        }
    }

    private static void overSixteen(Due due) {
        OverrideRules x = new OverrideRules();
        x.type(Due.INTERFACE, 3, Due.NONE);
        for (int t = 1; t < 16; t++) {
            x.type(Due.CLASS, t % 4, t == 1 ? Due.NONE : t - 1);
        }
        x.face(15, 0);
        x.member(0, 7, 16, Due.ABSTRACT);
        due.is("none of 15 classes has one", x.chosen(15, 0), 0);
        x.member(1, 7, 16, Due.PACKAGE);
        due.is("the highest class has one", x.chosen(15, 0), 1);
        due.is("it is its own", x.chosen(15, 1), 1);
        x.member(15, 7, 16, Due.PUBLIC);
        due.is("the lowest has one", x.chosen(15, 0), 2);
        due.is("which does not override it", x.chosen(15, 1), 1);
        x = new OverrideRules();
        for (int t = 0; t < 16; t++) {
            x.type(Due.CLASS, 0, t - 1);
        }
        x.member(0, 0, 16, Due.PUBLIC);
        due.is("the first of 16 classes has the only one", x.chosen(15, 0), 0);
    }
}
