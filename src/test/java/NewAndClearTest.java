/** Promises 1 and 2: a new object, and clear. */
public final class NewAndClearTest {
    public static void main(String[] args) {
        Due due = new Due();
        OverrideRules x = new OverrideRules();
        isEmpty(due, "new", x);
        due.is("clear of a new one", x.clear(), 0);
        isEmpty(due, "new and cleared", x);
        clearForgetsEverything(due, x);
        clearCountsMembersAlone(due);
        fullClearedAndFullAgain(due);
        objectsAreApart(due);
        due.end();
    }

    private static void isEmpty(Due due, String when, OverrideRules x) {
        for (int what = 0; what < 4; what++) {
            due.is(when + ", told " + what, x.told(what), 0);
        }
        due.is(when + ", type 0", x.check(0), Due.UNKNOWN);
        due.is(when + ", parent 0", x.type(0, 0, 0), Due.UNKNOWN);
        due.is(when + ", throw 0", x.thrown0(0, true), Due.UNKNOWN);
        due.is(when + ", member 0", x.overrides(0, 0), Due.UNKNOWN);
    }

    private static void clearForgetsEverything(Due due, OverrideRules x) {
        tellTwo(due, x);
        due.is("faults before", x.told(3), 1);
        due.is("clear", x.clear(), 2);
        isEmpty(due, "cleared", x);
        due.is("clear again", x.clear(), 0);
        // Nothing of the first time may shine through in the second one.
        due.is("interface", x.type(Due.INTERFACE, 0, Due.NONE), 0);
        due.is("class without parent or faces", x.type(Due.CLASS, 0, Due.NONE), 1);
        due.is("not below", x.sub(1, 0), 0);
        due.is("first throw", x.thrown0(Due.NONE, false), 0);
        due.is("second throw", x.thrown0(Due.NONE, false), 1);
        due.is("the name is free", x.member(0, 0, 16, Due.ABSTRACT), 0);
        due.is("and here", x.member(1, 0, 17, Due.PUBLIC), 1);
        due.is("it has no faces", x.face(1, 0), 1);
        due.is("it threw nothing", x.throws0(1, 0), 1);
        due.is("it threw nothing", x.throws0(1, 1), 1);
        due.faults("no throw is checked", x, 1, 4, 1, 0);
    }

    private static void tellTwo(Due due, OverrideRules x) {
        due.is("type", x.type(Due.INTERFACE, 0, Due.NONE), 0);
        due.is("type", x.type(Due.CLASS, 0, Due.NONE), 1);
        due.is("face", x.face(1, 0), 1);
        due.is("throw", x.thrown0(Due.NONE, true), 0);
        due.is("throw", x.thrown0(0, true), 1);
        due.is("member", x.member(0, 0, 16, Due.ABSTRACT), 0);
        due.is("member", x.member(1, 0, 16, Due.PUBLIC), 1);
        due.is("throws", x.throws0(1, 0), 1);
        due.is("throws", x.throws0(1, 1), 1);
    }

    private static void clearCountsMembersAlone(Due due) {
        OverrideRules x = Trees.interfacesAndClass(3, Due.CLASS);
        x.thrown0(Due.NONE, true);
        due.is("types and throws, but no members", x.clear(), 0);
        isEmpty(due, "they are gone", x);
    }

    private static void fullClearedAndFullAgain(Due due) {
        OverrideRules x = Trees.full();
        due.is("clear of a full one", x.clear(), 60);
        isEmpty(due, "full and cleared", x);
        for (int i = 0; i < 60; i++) {
            if (i < 16) {
                due.is("type " + i, x.type(Due.CLASS, 0, Due.NONE), i);
            }
            if (i < 8) {
                due.is("throw " + i, x.thrown0(i - 1, true), i);
            }
            due.is("member " + i, x.member(i / 8, i % 8, 16, 0), i);
        }
        due.is("no 17th type", x.type(Due.CLASS, 0, Due.NONE), Due.ROOM);
        due.is("no 9th throw", x.thrown0(Due.NONE, true), Due.ROOM);
        due.is("no 61st member", x.member(15, 0, 16, 0), Due.ROOM);
        due.is("nothing of the first time is wrong", x.told(3), 0);
        due.is("clear again", x.clear(), 60);
    }

    private static void objectsAreApart(Due due) {
        OverrideRules one = new OverrideRules();
        OverrideRules other = new OverrideRules();
        due.is("a type of one", one.type(0, 0, Due.NONE), 0);
        due.is("is none of the other", other.told(0), 0);
    }
}
