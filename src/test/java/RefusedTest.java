import java.util.function.Supplier;
import java.util.function.ToIntFunction;

/**
 * The last sentence of "Terms": calls answer the first that fits of UNKNOWN, OUTSIDE and ROOM,
 * and nothing changes then.
 */
public final class RefusedTest {
    private final Due due = new Due();
    private Supplier<OverrideRules> made;
    private String where;

    public static void main(String[] args) {
        RefusedTest test = new RefusedTest();
        test.probeSees();
        test.ofNewObject();
        test.ofSmallTree();
        test.ofFullObject();
        test.questionsChangeNothing();
        test.due.end();
    }

    private void startFrom(String name, Supplier<OverrideRules> object) {
        where = name + ": ";
        made = object;
    }

    private void refused(String what, int answer, ToIntFunction<OverrideRules> call) {
        due.is(where + what, call.applyAsInt(made.get()), answer);
        due.holds(where + what + ", nothing changes", Probe.leavesNoTrace(made, call));
    }

    private void unknown(String what, ToIntFunction<OverrideRules> call) {
        refused(what, Due.UNKNOWN, call);
    }

    private void outside(String what, ToIntFunction<OverrideRules> call) {
        refused(what, Due.OUTSIDE, call);
    }

    private void room(String what, ToIntFunction<OverrideRules> call) {
        refused(what, Due.ROOM, call);
    }

    /** If the probe were blind to a change, the rest of this test would say nothing. */
    private void probeSees() {
        made = Trees::small;
        due.holds("sees a type", !Probe.leavesNoTrace(made, x -> x.type(0, 0, Due.NONE)));
        due.holds("sees a face", !Probe.leavesNoTrace(made, x -> x.face(1, 0)));
        due.holds("sees a throw", !Probe.leavesNoTrace(made, x -> x.thrown0(0, false)));
        due.holds("sees a member", !Probe.leavesNoTrace(made, x -> x.member(2, 5, 16, 64)));
        due.holds("sees what is thrown", !Probe.leavesNoTrace(made, x -> x.throws0(0, 2)));
        due.holds("sees a clear", !Probe.leavesNoTrace(made, x -> x.clear()));
    }

    private void ofNewObject() {
        startFrom("new", OverrideRules::new);
        unknown("a parent", x -> x.type(0, 0, 0));
        unknown("a parent, KIND and PACKAGE", x -> x.type(3, 4, 0));
        outside("KIND", x -> x.type(3, 0, Due.NONE));
        outside("PACKAGE", x -> x.type(0, 4, Due.NONE));
        unknown("face", x -> x.face(0, 0));
        unknown("thrown0", x -> x.thrown0(0, true));
        unknown("member", x -> x.member(0, 0, 16, 0));
        unknown("member, and all is wrong", x -> x.member(0, 8, 20, 256));
        unknown("throws0", x -> x.throws0(0, 0));
        unknown("overrides", x -> x.overrides(0, 0));
        unknown("hides", x -> x.hides(0, 0));
        unknown("chosen", x -> x.chosen(0, 0));
        unknown("sub", x -> x.sub(0, 0));
        unknown("check", x -> x.check(0));
        unknown("fault", x -> x.fault(0, 0, 0));
        unknown("fault, and what", x -> x.fault(0, 0, 3));
        unknown("bridges", x -> x.bridges(0));
        unknown("first", x -> x.first(0));
        outside("told", x -> x.told(4));
    }

    private void ofSmallTree() {
        startFrom("small", Trees::small);
        unknown("a parent", x -> x.type(0, 0, 5));
        unknown("a parent of an INTERFACE that there is not", x -> x.type(2, 0, 5));
        outside("a parent of an INTERFACE", x -> x.type(2, 0, 3));
        outside("a parent that is an INTERFACE", x -> x.type(0, 0, 0));
        unknown("face of no TYPE", x -> x.face(5, 0));
        unknown("no TYPE as a face", x -> x.face(4, 5));
        unknown("no TYPE as a face of an INTERFACE", x -> x.face(0, 5));
        outside("a class as a face", x -> x.face(4, 3));
        outside("a face of no lesser number", x -> x.face(1, 2));
        outside("a face that it has", x -> x.face(4, 1));
        unknown("parent of a THROW", x -> x.thrown0(3, true));
        unknown("member of no TYPE", x -> x.member(5, 5, 16, 0));
        unknown("a RESULT that is no TYPE", x -> x.member(4, 5, 5, 0));
        unknown("such a RESULT, a NAME and MARKS", x -> x.member(4, 8, 5, 256));
        unknown("such a RESULT, a NAME that the TYPE has", x -> x.member(4, 3, 5, 0));
        outside("NAME", x -> x.member(4, 8, 16, 0));
        outside("RESULT", x -> x.member(4, 5, 20, 0));
        outside("MARKS", x -> x.member(4, 5, 16, Due.DEFAULT));
        outside("MARKS of an INTERFACE", x -> x.member(0, 5, 16, Due.PUBLIC));
        outside("a NAME that the TYPE has", x -> x.member(4, 3, 16, 0));
        unknown("throws0 of no MEMBER", x -> x.throws0(8, 0));
        unknown("throws0 of no THROW", x -> x.throws0(7, 3));
        refused("throws0 again", 0, x -> x.throws0(4, 0));
        unknown("chosen for an INTERFACE and no MEMBER", x -> x.chosen(0, 8));
        outside("chosen for an INTERFACE", x -> x.chosen(2, 0));
        outside("chosen, a STATIC one", x -> x.chosen(4, 5));
        outside("chosen, a PRIVATE one", x -> x.chosen(4, 7));
        outside("chosen, one of a TYPE not above", x -> x.chosen(4, 2));
        unknown("fault of no TYPE", x -> x.fault(5, 0, 3));
        outside("fault, what, and no such FAULT", x -> x.fault(4, 99, 3));
        refused("no such FAULT", Due.NONE, x -> x.fault(4, 99, 0));
        outside("told", x -> x.told(-1));
    }

    private void ofFullObject() {
        startFrom("full", Trees::full);
        room("a 17th TYPE", x -> x.type(0, 0, Due.NONE));
        room("a 17th TYPE with a parent", x -> x.type(1, 3, 15));
        room("a 17th TYPE, an INTERFACE", x -> x.type(2, 0, Due.NONE));
        unknown("a 17th TYPE, and a parent", x -> x.type(3, 0, 16));
        outside("a 17th TYPE, and KIND", x -> x.type(3, 0, Due.NONE));
        outside("a 17th TYPE, and PACKAGE", x -> x.type(0, 4, 15));
        outside("a 17th TYPE, a parent of an INTERFACE", x -> x.type(2, 0, 15));
        outside("a 17th TYPE, a parent that is an INTERFACE", x -> x.type(0, 0, 3));
        room("a 4th FACE", x -> x.face(15, 3));
        unknown("a 4th FACE, and no TYPE", x -> x.face(15, 16));
        outside("a 4th FACE, and a class", x -> x.face(15, 4));
        outside("a 4th FACE, and itself", x -> x.face(15, 15));
        outside("a 4th FACE that it has", x -> x.face(15, 2));
        room("a 9th THROW", x -> x.thrown0(Due.NONE, true));
        room("a 9th THROW with a parent", x -> x.thrown0(7, false));
        unknown("a 9th THROW, and its parent", x -> x.thrown0(8, true));
        room("a 61st MEMBER", x -> x.member(15, 7, 16, 0));
        room("a 61st MEMBER of a TYPE with room", x -> x.member(0, 7, 15, Due.DEFAULT));
        unknown("a 61st MEMBER, and its TYPE", x -> x.member(16, 7, 16, 0));
        outside("a 61st MEMBER, and its NAME", x -> x.member(15, 8, 16, 0));
        outside("a 61st MEMBER, and its RESULT", x -> x.member(15, 7, 20, 0));
        outside("a 61st MEMBER, and its MARKS", x -> x.member(15, 7, 16, Due.DEFAULT));
        outside("a 61st MEMBER, a NAME that the TYPE has", x -> x.member(15, 5, 16, 0));
        unknown("throws0 of a 61st", x -> x.throws0(60, 0));
        unknown("throws0 of a 9th", x -> x.throws0(59, 8));
    }

    /** Only clear, type, face, thrown0, member and throws0 are said to change anything. */
    private void questionsChangeNothing() {
        startFrom("small", Trees::small);
        refused("overrides", 1, x -> x.overrides(4, 3));
        refused("hides", 1, x -> x.hides(6, 5));
        refused("chosen", Due.FIGHT, x -> x.chosen(4, 0));
        refused("sub", 1, x -> x.sub(4, 0));
        refused("check", 5, x -> x.check(4));
        refused("fault", 5, x -> x.fault(4, 0, 0));
        refused("bridges", 1, x -> x.bridges(4));
        refused("first", 4, x -> x.first(4));
        refused("told", 6, x -> x.told(3));
    }
}
