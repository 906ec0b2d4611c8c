import java.util.function.IntUnaryOperator;

/**
 * Each argument in turn, the others being right, with numbers just beyond its bounds and far
 * beyond: those that come back to a right one when bits or rows wrap around are among them.
 */
public final class NumbersTest {
    private static final int[] NUMBERS = {
        Integer.MIN_VALUE, Integer.MIN_VALUE + 1, Integer.MIN_VALUE + 4, -65536, -256, -255, -128, -64,
        -60, -59, -33, -32, -31, -20, -17, -16, -15, -9, -8, -7, -6, -5, -4, -3, -2, -1, 0, 1, 2, 3, 4,
        5, 6, 7, 8, 9, 15, 16, 17, 19, 20, 21, 31, 32, 33, 36, 59, 60, 61, 63, 64, 65, 127, 128, 255,
        256, 257, 288, 65536, 65540, Integer.MAX_VALUE - 1, Integer.MAX_VALUE,
    };

    private final Due due = new Due();
    private OverrideRules small;
    private OverrideRules full;

    public static void main(String[] args) {
        NumbersTest test = new NumbersTest();
        test.types();
        test.faces();
        test.throwns();
        test.members();
        test.pairs();
        test.ofOneType();
        test.due.end();
    }

    /** All numbers but those from the first right one to the last answer the same. */
    private void beyond(String what, int first, int last, int answer, IntUnaryOperator call) {
        for (int number : NUMBERS) {
            if (number < first || number > last) {
                // Made anew for each number: an object is used for 512 calls at most.
                small = Trees.small();
                full = Trees.full();
                due.is(what + " " + number, call.applyAsInt(number), answer);
                due.is(what + " " + number + ", types", small.told(0), 5);
                due.is(what + " " + number + ", throws", small.told(1), 3);
                due.is(what + " " + number + ", members", small.told(2), 8);
                due.is(what + " " + number + ", faults", small.told(3), 6);
            }
        }
    }

    private void types() {
        beyond("KIND", 0, 2, Due.OUTSIDE, n -> small.type(n, 0, Due.NONE));
        beyond("KIND with a parent", 0, 2, Due.OUTSIDE, n -> small.type(n, 0, 3));
        beyond("PACKAGE", 0, 3, Due.OUTSIDE, n -> small.type(0, n, Due.NONE));
        beyond("PACKAGE of an INTERFACE", 0, 3, Due.OUTSIDE, n -> small.type(2, n, Due.NONE));
        beyond("parent", -1, 4, Due.UNKNOWN, n -> small.type(0, 0, n));
        beyond("parent of an INTERFACE", -1, 4, Due.UNKNOWN, n -> small.type(2, 0, n));
        beyond("parent when full", -1, 15, Due.UNKNOWN, n -> full.type(0, 0, n));
    }

    private void faces() {
        beyond("TYPE with a FACE", 0, 4, Due.UNKNOWN, n -> small.face(n, 0));
        beyond("FACE", 0, 4, Due.UNKNOWN, n -> small.face(4, n));
        beyond("TYPE when full", 0, 15, Due.UNKNOWN, n -> full.face(n, 0));
        beyond("FACE when full", 0, 15, Due.UNKNOWN, n -> full.face(14, n));
    }

    private void throwns() {
        beyond("parent of a THROW", -1, 2, Due.UNKNOWN, n -> small.thrown0(n, true));
        beyond("parent of a THROW when full", -1, 7, Due.UNKNOWN, n -> full.thrown0(n, true));
        beyond("MEMBER that throws", 0, 7, Due.UNKNOWN, n -> small.throws0(n, 0));
        beyond("THROW", 0, 2, Due.UNKNOWN, n -> small.throws0(0, n));
        beyond("MEMBER that throws when full", 0, 59, Due.UNKNOWN, n -> full.throws0(n, 0));
        beyond("THROW when full", 0, 7, Due.UNKNOWN, n -> full.throws0(0, n));
    }

    private void members() {
        beyond("TYPE of a MEMBER", 0, 4, Due.UNKNOWN, n -> small.member(n, 7, 16, 0));
        beyond("NAME", 0, 7, Due.OUTSIDE, n -> small.member(4, n, 16, 0));
        beyond("NAME in the first TYPE", 0, 7, Due.OUTSIDE, n -> small.member(0, n, 16, Due.DEFAULT));
        beyond("RESULT of no TYPE", 0, 19, Due.OUTSIDE, n -> small.member(4, 7, n, 0));
        beyond("MARKS", 0, 255, Due.OUTSIDE, n -> small.member(4, 7, 16, n));
        beyond("MARKS in an INTERFACE", 0, 255, Due.OUTSIDE, n -> small.member(0, 7, 16, n));
        for (int result = 5; result <= 15; result++) {
            due.is("RESULT " + result, Trees.small().member(4, 7, result, 0), Due.UNKNOWN);
        }
    }

    private void pairs() {
        beyond("overrides, one", 0, 7, Due.UNKNOWN, n -> small.overrides(n, 0));
        beyond("overrides, other", 0, 7, Due.UNKNOWN, n -> small.overrides(0, n));
        beyond("hides, one", 0, 7, Due.UNKNOWN, n -> small.hides(n, 0));
        beyond("hides, other", 0, 7, Due.UNKNOWN, n -> small.hides(0, n));
        beyond("overrides, one, when full", 0, 59, Due.UNKNOWN, n -> full.overrides(n, 59));
        beyond("overrides, other, when full", 0, 59, Due.UNKNOWN, n -> full.overrides(59, n));
        beyond("hides, one, when full", 0, 59, Due.UNKNOWN, n -> full.hides(n, 59));
        beyond("hides, other, when full", 0, 59, Due.UNKNOWN, n -> full.hides(59, n));
        beyond("chosen, TYPE", 0, 4, Due.UNKNOWN, n -> small.chosen(n, 0));
        beyond("chosen, MEMBER", 0, 7, Due.UNKNOWN, n -> small.chosen(4, n));
        beyond("chosen, MEMBER, for an INTERFACE", 0, 7, Due.UNKNOWN, n -> small.chosen(0, n));
        beyond("chosen, TYPE, when full", 0, 15, Due.UNKNOWN, n -> full.chosen(n, 59));
        beyond("chosen, MEMBER, when full", 0, 59, Due.UNKNOWN, n -> full.chosen(15, n));
        beyond("sub, one", 0, 4, Due.UNKNOWN, n -> small.sub(n, 0));
        beyond("sub, other", 0, 4, Due.UNKNOWN, n -> small.sub(4, n));
        beyond("sub, both", 0, 4, Due.UNKNOWN, n -> small.sub(n, n));
        beyond("sub, one, when full", 0, 15, Due.UNKNOWN, n -> full.sub(n, 0));
        beyond("sub, other, when full", 0, 15, Due.UNKNOWN, n -> full.sub(15, n));
    }

    private void ofOneType() {
        beyond("check", 0, 4, Due.UNKNOWN, n -> small.check(n));
        beyond("check when full", 0, 15, Due.UNKNOWN, n -> full.check(n));
        beyond("fault, TYPE", 0, 4, Due.UNKNOWN, n -> small.fault(n, 0, 0));
        beyond("fault, what", 0, 2, Due.OUTSIDE, n -> small.fault(4, 0, n));
        for (int part = 0; part < 3; part++) {
            int what = part;
            beyond("FAULT, part " + what, 0, 4, Due.NONE, n -> small.fault(4, n, what));
            beyond("FAULT of a TYPE without", 0, -1, Due.NONE, n -> small.fault(0, n, what));
        }
        beyond("bridges", 0, 4, Due.UNKNOWN, n -> small.bridges(n));
        beyond("bridges when full", 0, 15, Due.UNKNOWN, n -> full.bridges(n));
        beyond("first", 0, 4, Due.UNKNOWN, n -> small.first(n));
        beyond("first when full", 0, 15, Due.UNKNOWN, n -> full.first(n));
        beyond("told", 0, 3, Due.OUTSIDE, n -> small.told(n));
    }
}
