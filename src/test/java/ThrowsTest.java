/** Promises 5 and 7: thrown0 and throws0, and what they do in the FAULT 5. */
public final class ThrowsTest {
    public static void main(String[] args) {
        Due due = new Due();
        thrownEdges(due);
        throwsEdges(due);
        checkedOnes(due);
        allowedOnes(due);
        due.end();
    }

    private static void thrownEdges(Due due) {
        OverrideRules x = new OverrideRules();
        due.is("no such parent", x.thrown0(0, true), Due.UNKNOWN);
        due.is("parent -2", x.thrown0(-2, true), Due.UNKNOWN);
        for (int i = 0; i < 8; i++) {
            due.is("throw " + i, x.thrown0(i - 1, i % 2 == 0), i);
        }
        due.is("ninth", x.thrown0(Due.NONE, true), Due.ROOM);
        due.is("ninth with a parent", x.thrown0(7, true), Due.ROOM);
        due.is("UNKNOWN before ROOM", x.thrown0(8, true), Due.UNKNOWN);
        due.is("eight", x.told(1), 8);
    }

    private static void throwsEdges(Due due) {
        OverrideRules x = new OverrideRules();
        x.type(Due.CLASS, 0, Due.NONE);
        due.is("no member, no throw", x.throws0(0, 0), Due.UNKNOWN);
        x.member(0, 0, 16, 0);
        due.is("no throw", x.throws0(0, 0), Due.UNKNOWN);
        x.thrown0(Due.NONE, true);
        due.is("no such member", x.throws0(1, 0), Due.UNKNOWN);
        due.is("member -1", x.throws0(-1, 0), Due.UNKNOWN);
        due.is("throw -1", x.throws0(0, -1), Due.UNKNOWN);
        due.is("throw 1", x.throws0(0, 1), Due.UNKNOWN);
        due.is("throws", x.throws0(0, 0), 1);
        due.is("again", x.throws0(0, 0), 0);
        for (int i = 1; i < 8; i++) {
            x.thrown0(Due.NONE, true);
            due.is("throws " + i, x.throws0(0, i), 1);
            due.is("again " + i, x.throws0(0, i), 0);
        }
        due.is("the first is still there", x.throws0(0, 0), 0);
    }

    private static void checkedOnes(Due due) {
        OverrideRules x = new OverrideRules();
        x.type(Due.CLASS, 0, Due.NONE);
        x.type(Due.CLASS, 0, 0);
        x.member(0, 0, 16, 1);
        x.member(1, 0, 16, 1);
        x.thrown0(Due.NONE, false);
        x.thrown0(0, true);
        x.thrown0(1, false);
        x.thrown0(2, true);
        due.is("unchecked, of an unchecked parent", x.throws0(1, 0), 1);
        due.is("unchecked, of a checked parent", x.throws0(1, 2), 1);
        due.faults("unchecked ones are free", x, 1);
        due.is("checked", x.throws0(1, 3), 1);
        due.faults("a checked one is not", x, 1, 5, 1, 0);
        x.throws0(1, 1);
        due.faults("two of them are one fault", x, 1, 5, 1, 0);
        x.throws0(0, 2);
        due.faults("one is allowed, one is not", x, 1, 5, 1, 0);
        x.throws0(0, 0);
        due.faults("far above, unchecked, allows both", x, 1);
    }

    private static void allowedOnes(Due due) {
        OverrideRules x = new OverrideRules();
        x.type(Due.CLASS, 0, Due.NONE);
        x.type(Due.CLASS, 0, 0);
        x.member(0, 0, 16, 1);
        x.member(1, 0, 16, 1);
        x.thrown0(Due.NONE, true);
        x.thrown0(0, true);
        x.thrown0(0, true);
        x.throws0(0, 1);
        x.throws0(1, 1);
        due.faults("the same one", x, 1);
        x.throws0(1, 2);
        due.faults("one of the same parent", x, 1, 5, 1, 0);
        x.throws0(0, 2);
        due.faults("each is allowed by its own", x, 1);
        x.throws0(1, 0);
        due.faults("a parent is not allowed by those below it", x, 1, 5, 1, 0);
    }
}
