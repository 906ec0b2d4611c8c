/** Promise 6: member. */
public final class MembersTest {
    public static void main(String[] args) {
        Due due = new Due();
        numbersAndNames(due);
        order(due);
        allMarks(due);
        room(due);
        due.end();
    }

    private static void numbersAndNames(Due due) {
        OverrideRules x = new OverrideRules();
        due.is("no type", x.member(0, 0, 16, 0), Due.UNKNOWN);
        x.type(Due.CLASS, 0, Due.NONE);
        x.type(Due.INTERFACE, 0, Due.NONE);
        due.is("type -1", x.member(-1, 0, 16, 0), Due.UNKNOWN);
        due.is("type 2", x.member(2, 0, 16, 0), Due.UNKNOWN);
        due.is("result 2", x.member(0, 0, 2, 0), Due.UNKNOWN);
        due.is("result 15", x.member(0, 0, 15, 0), Due.UNKNOWN);
        due.is("result 20", x.member(0, 0, 20, 0), Due.OUTSIDE);
        due.is("result -1", x.member(0, 0, -1, 0), Due.OUTSIDE);
        due.is("result least", x.member(0, 0, Integer.MIN_VALUE, 0), Due.OUTSIDE);
        due.is("name -1", x.member(0, -1, 16, 0), Due.OUTSIDE);
        due.is("name 8", x.member(0, 8, 16, 0), Due.OUTSIDE);
        due.is("marks -1", x.member(0, 0, 16, -1), Due.OUTSIDE);
        due.is("marks 256", x.member(0, 0, 16, 256), Due.OUTSIDE);
        due.is("nothing changed", x.told(2), 0);
        due.is("result 1", x.member(0, 0, 1, 0), 0);
        due.is("the name again", x.member(0, 0, 16, 1), Due.OUTSIDE);
        due.is("name 7, result 19", x.member(0, 7, 19, 0), 1);
        due.is("the name 0 of another type", x.member(1, 0, 0, Due.DEFAULT), 2);
        due.is("the name 7 of it", x.member(1, 7, 16, Due.DEFAULT), 3);
        due.is("that again", x.member(1, 7, 16, Due.DEFAULT), Due.OUTSIDE);
    }

    private static void order(Due due) {
        OverrideRules x = new OverrideRules();
        x.type(Due.CLASS, 0, Due.NONE);
        due.is("type before all", x.member(1, 99, 99, 999), Due.UNKNOWN);
        due.is("a missing result before name and marks", x.member(0, 99, 1, 999), Due.UNKNOWN);
        due.is("OUTSIDE", x.member(0, 99, 0, 0), Due.OUTSIDE);
    }

    private static void allMarks(Due due) {
        for (int kind = 0; kind < 3; kind++) {
            OverrideRules x = new OverrideRules();
            int type = Due.NONE;
            for (int marks = 0; marks < 256; marks++) {
                if (type == Due.NONE) {
                    x.clear();
                    type = x.type(kind, 0, Due.NONE);
                }
                boolean fits = kind == Due.INTERFACE ? fitsInterface(marks) : fitsClass(marks);
                int due0 = fits ? 0 : Due.OUTSIDE;
                due.is("kind " + kind + ", marks " + marks, x.member(type, 0, 16, marks), due0);
                type = fits ? Due.NONE : type;
            }
        }
    }

    private static boolean fitsClass(int marks) {
        boolean isAbstract = (marks & Due.ABSTRACT) != 0;
        boolean forbids = (marks & (Due.PRIVATE | Due.STATIC | Due.FINAL)) != 0;
        return hasOneAccess(marks) && (marks & Due.DEFAULT) == 0 && !(isAbstract && forbids);
    }

    private static boolean fitsInterface(int marks) {
        switch (marks & ~(Due.PUBLIC | Due.MARKED)) {
            case Due.PRIVATE:
            case Due.PRIVATE | Due.STATIC:
                return (marks & Due.PUBLIC) == 0;
            case Due.STATIC:
            case Due.ABSTRACT:
            case Due.DEFAULT:
                return true;
            default:
                return false;
        }
    }

    private static boolean hasOneAccess(int marks) {
        int access = marks & 7;
        return access == 0 || access == Due.PUBLIC || access == Due.PROTECTED || access == Due.PRIVATE;
    }

    private static void room(Due due) {
        OverrideRules x = new OverrideRules();
        for (int t = 0; t < 8; t++) {
            x.type(Due.CLASS, 0, t - 1);
        }
        for (int i = 0; i < 60; i++) {
            due.is("member " + i, x.member(i / 8, i % 8, 16, 0), i);
        }
        due.is("61st", x.member(7, 4, 16, 0), Due.ROOM);
        due.is("UNKNOWN before ROOM", x.member(8, 4, 16, 0), Due.UNKNOWN);
        due.is("UNKNOWN before ROOM", x.member(7, 4, 8, 0), Due.UNKNOWN);
        due.is("OUTSIDE before ROOM", x.member(7, 3, 16, 0), Due.OUTSIDE);
        due.is("OUTSIDE before ROOM", x.member(7, 4, 16, 3), Due.OUTSIDE);
        due.is("sixty", x.told(2), 60);
        askWhenFull(due, x);
    }

    private static void askWhenFull(Due due, OverrideRules x) {
        due.is("the last overrides the first of its name", x.overrides(59, 3), 1);
        due.is("the last hides none", x.hides(59, 3), 0);
        due.is("the last is chosen", x.chosen(7, 3), 59);
        due.is("first", x.first(7), 56);
        due.is("bridges", x.bridges(7), 0);
        due.is("faults", x.told(3), 0);
        due.is("clear", x.clear(), 60);
    }
}
