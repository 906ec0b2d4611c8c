/** Promise 10: chosen. */
public final class ChosenTest {
    public static void main(String[] args) {
        Due due = new Due();
        wrongInputs(due);
        ofClasses(due);
        classesBeforeInterfaces(due);
        ofInterfaces(due);
        fights(due);
        due.end();
    }

    private static void wrongInputs(Due due) {
        OverrideRules x = new OverrideRules();
        x.type(Due.INTERFACE, 0, Due.NONE);
        x.type(Due.CLASS, 0, Due.NONE);
        x.type(Due.CLASS, 0, 1);
        x.type(Due.CLASS, 0, 1);
        x.member(0, 0, 16, Due.DEFAULT);
        x.member(1, 0, 16, Due.STATIC);
        x.member(1, 1, 16, Due.PRIVATE);
        x.member(2, 2, 16, Due.PUBLIC);
        due.is("no such type", x.chosen(4, 0), Due.UNKNOWN);
        due.is("type -1", x.chosen(-1, 0), Due.UNKNOWN);
        due.is("no such member", x.chosen(1, 4), Due.UNKNOWN);
        due.is("member -1", x.chosen(1, -1), Due.UNKNOWN);
        due.is("UNKNOWN before OUTSIDE", x.chosen(0, 4), Due.UNKNOWN);
        due.is("an interface", x.chosen(0, 0), Due.OUTSIDE);
        due.is("static", x.chosen(1, 1), Due.OUTSIDE);
        due.is("private", x.chosen(1, 2), Due.OUTSIDE);
        due.is("of a type below", x.chosen(1, 3), Due.OUTSIDE);
        due.is("of a type beside", x.chosen(3, 3), Due.OUTSIDE);
        due.is("of an interface that is not above", x.chosen(1, 0), Due.OUTSIDE);
        due.is("its own", x.chosen(2, 3), 3);
    }

    private static void ofClasses(Due due) {
        OverrideRules x = new OverrideRules();
        int[] packets = {0, 1, 0, 1};
        for (int t = 0; t < 4; t++) {
            x.type(t == 3 ? Due.ABSTRACT_CLASS : Due.CLASS, packets[t], t - 1);
        }
        x.member(2, 0, 16, 0);
        x.member(0, 0, 16, 0);
        x.member(1, 0, 16, 0);
        due.is("overridden two below", x.chosen(2, 1), 0);
        due.is("not overridden in the other package", x.chosen(1, 1), 1);
        due.is("its parent's is no override of it", x.chosen(3, 2), 2);
        due.is("but of the first", x.chosen(3, 1), 0);
        x.member(3, 0, 16, Due.STATIC);
        due.is("a static one is passed over", x.chosen(3, 1), 0);
        x = new OverrideRules();
        x.type(Due.CLASS, 0, Due.NONE);
        x.type(Due.CLASS, 0, 0);
        x.member(0, 0, 16, 1);
        x.member(1, 0, 16, Due.PRIVATE);
        due.is("it overrides", x.overrides(1, 0), 1);
        due.is("but a private one is passed over", x.chosen(1, 0), 0);
    }

    private static void classesBeforeInterfaces(Due due) {
        OverrideRules x = new OverrideRules();
        x.type(Due.INTERFACE, 0, Due.NONE);
        x.type(Due.CLASS, 1, Due.NONE);
        x.type(Due.CLASS, 2, 1);
        x.type(Due.CLASS, 3, 2);
        x.face(3, 0);
        x.member(0, 0, 16, Due.DEFAULT);
        due.is("no class has one", x.chosen(3, 0), 0);
        x.member(1, 0, 16, Due.PACKAGE);
        due.is("whatever it is, far above", x.chosen(3, 0), 1);
        x.member(2, 0, 16, Due.PRIVATE);
        due.is("a private one is passed over", x.chosen(3, 0), 1);
        x.member(3, 0, 16, Due.STATIC);
        due.is("a static one too", x.chosen(3, 0), 1);
        due.is("for the class's own", x.chosen(3, 1), 1);
    }

    private static void ofInterfaces(Due due) {
        OverrideRules x = new OverrideRules();
        for (int t = 0; t < 4; t++) {
            x.type(Due.INTERFACE, 0, Due.NONE);
        }
        x.face(1, 0);
        x.face(2, 1);
        x.type(Due.ABSTRACT_CLASS, 0, Due.NONE);
        x.face(4, 0);
        x.face(4, 2);
        x.member(3, 0, 16, Due.ABSTRACT);
        x.member(0, 0, 16, Due.DEFAULT);
        due.is("the only one", x.chosen(4, 1), 1);
        x.member(2, 0, 16, Due.ABSTRACT);
        due.is("one two below it, and abstract", x.chosen(4, 1), 2);
        x.member(1, 0, 16, Due.DEFAULT);
        due.is("the one between is covered too", x.chosen(4, 3), 2);
        x.face(4, 3);
        due.is("all that are left are abstract: the least number", x.chosen(4, 1), 0);
        due.is("whichever is asked", x.chosen(4, 2), 0);
    }

    private static void fights(Due due) {
        OverrideRules x = new OverrideRules();
        x.type(Due.INTERFACE, 0, Due.NONE);
        x.type(Due.INTERFACE, 0, Due.NONE);
        x.type(Due.CLASS, 0, Due.NONE);
        x.type(Due.CLASS, 0, 2);
        x.face(2, 0);
        x.face(3, 1);
        x.member(0, 0, 16, Due.ABSTRACT);
        due.is("one", x.chosen(3, 0), 0);
        x.member(1, 0, 16, Due.DEFAULT);
        due.is("a default beside an abstract one", x.chosen(3, 0), Due.FIGHT);
        due.is("and for the other", x.chosen(3, 1), Due.FIGHT);
        due.is("not for the parent", x.chosen(2, 0), 0);
        x.member(0, 1, 16, Due.DEFAULT);
        x.member(1, 1, 16, Due.STATIC);
        due.is("a static one does not fight", x.chosen(3, 2), 2);
        x.member(0, 2, 16, Due.DEFAULT);
        x.member(1, 2, 16, Due.PRIVATE);
        due.is("nor a private one", x.chosen(3, 4), 4);
        x.member(2, 0, 16, Due.PROTECTED);
        due.is("a class ends it", x.chosen(3, 1), 6);
    }
}
