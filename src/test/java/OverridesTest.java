/** Promise 8: overrides. */
public final class OverridesTest {
    public static void main(String[] args) {
        Due due = new Due();
        unknown(due);
        marks(due);
        acrossPackages(due);
        throughSeveral(due);
        throughAllSixteen(due);
        interfaces(due);
        due.end();
    }

    private static void unknown(Due due) {
        OverrideRules x = new OverrideRules();
        x.type(Due.CLASS, 0, Due.NONE);
        x.member(0, 0, 16, 0);
        due.is("itself", x.overrides(0, 0), 0);
        due.is("UNKNOWN", x.overrides(0, 1), Due.UNKNOWN);
        due.is("UNKNOWN", x.overrides(1, 0), Due.UNKNOWN);
        due.is("UNKNOWN", x.overrides(-1, 0), Due.UNKNOWN);
        due.is("UNKNOWN", x.overrides(0, -1), Due.UNKNOWN);
    }

    private static int pair(int a, int b, int packet) {
        return Trees.pair(a, b, packet).overrides(1, 0);
    }

    private static void marks(Due due) {
        due.is("public, public", pair(1, 1, 0), 1);
        due.is("the other way", Trees.pair(1, 1, 0).overrides(0, 1), 0);
        due.is("private, private", pair(4, 4, 0), 0);
        due.is("protected, package", pair(2, 0, 0), 1);
        due.is("protected, package elsewhere", pair(2, 0, 1), 0);
        due.is("private, public", pair(4, 1, 0), 1);
        due.is("public, private", pair(1, 4, 0), 0);
        due.is("static, public", pair(9, 1, 0), 0);
        due.is("public, static", pair(1, 9, 0), 0);
        due.is("static, static", pair(9, 9, 0), 0);
        due.is("package, package", pair(0, 0, 0), 1);
        due.is("public, package elsewhere", pair(1, 0, 1), 0);
        due.is("public, protected elsewhere", pair(1, 2, 1), 1);
        due.is("public, public elsewhere", pair(1, 1, 1), 1);
        due.is("public, final", pair(1, 17, 1), 1);
        OverrideRules x = new OverrideRules();
        x.type(Due.CLASS, 0, Due.NONE);
        x.type(Due.CLASS, 0, 0);
        x.type(Due.CLASS, 0, Due.NONE);
        x.member(0, 0, 16, 1);
        x.member(1, 1, 16, 1);
        x.member(2, 0, 16, 1);
        due.is("another name", x.overrides(1, 0), 0);
        due.is("not below", x.overrides(2, 0), 0);
    }

    private static void acrossPackages(Due due) {
        OverrideRules x = Trees.chain(new int[] {0, 0, 1}, new int[] {0, 1, 1});
        due.is("through a public one between", x.overrides(2, 0), 1);
        x = Trees.chain(new int[] {0, 0, 1}, new int[] {0, 2, 1});
        due.is("through a protected one between", x.overrides(2, 0), 1);
        x = Trees.chain(new int[] {0, 1, 2, 0}, new int[] {0, 1, 1, 0});
        due.is("its own package stays open", x.overrides(3, 0), 1);
        x = Trees.chain(new int[] {0, 0, 1}, new int[] {0, 0, 1});
        due.is("the one between is not open", x.overrides(2, 0), 0);
        x = Trees.chain(new int[] {0, 1, 0}, new int[] {0, 0, 0});
        due.is("back in the package", x.overrides(2, 0), 1);
        due.is("not the one between", x.overrides(2, 1), 0);
        x = Trees.chain(new int[] {0, 0, 1}, new int[] {0, 9, 1});
        due.is("a static one between", x.overrides(2, 0), 0);
        x = Trees.chain(new int[] {0, 0, 1}, new int[] {0, 4, 1});
        due.is("a private one between", x.overrides(2, 0), 0);
        x = Trees.chain(new int[] {0, 1, 2}, new int[] {0, 1, 1});
        due.is("the one between does not reach it", x.overrides(2, 0), 0);
    }

    private static void throughSeveral(Due due) {
        // 4 reaches 3, which is open; 3 reaches 1 by its package, 1 is open to nobody else,
        // and 1's package is that of 0.
        OverrideRules x = Trees.chain(new int[] {1, 1, 2, 1, 3}, new int[] {0, 0, 0, 1, 1});
        due.is("3 over 1", x.overrides(3, 1), 1);
        due.is("4 over 3", x.overrides(4, 3), 1);
        due.is("4 over 2", x.overrides(4, 2), 0);
        due.is("4 over 1", x.overrides(4, 1), 1);
        due.is("4 over 0", x.overrides(4, 0), 1);
        // Each link opens the next package.
        x = Trees.chain(new int[] {0, 0, 1, 1, 2, 2, 3}, new int[] {0, 1, 0, 1, 0, 1, 1});
        for (int o = 0; o < 6; o++) {
            due.is("the last over " + o, x.overrides(6, o), 1);
        }
        // A package that opens only above o is of no use for o.
        x = Trees.chain(new int[] {0, 1, 0, 2}, new int[] {1, 0, 0, 1});
        due.is("over the open one at the top", x.overrides(3, 0), 1);
        due.is("not over 1", x.overrides(3, 1), 0);
        due.is("not over 2", x.overrides(3, 2), 0);
    }

    private static void throughAllSixteen(Due due) {
        int[] packets = new int[16];
        int[] marks = new int[16];
        for (int t = 0; t < 16; t++) {
            packets[t] = t / 2 % 4;
            marks[t] = t % 2 == 0 ? Due.PACKAGE : Due.PUBLIC;
        }
        OverrideRules x = Trees.chain(packets, marks);
        for (int o = 0; o < 15; o++) {
            due.is("the last of 16 over " + o, x.overrides(15, o), 1);
        }
        // One link that is not open, and all in other packages than the last's are out of reach.
        marks[13] = Due.PACKAGE;
        x = Trees.chain(packets, marks);
        due.is("13 is not reached", x.overrides(15, 13), 0);
        due.is("nor 12", x.overrides(15, 12), 0);
        due.is("but 11, which is public", x.overrides(15, 11), 1);
        due.is("and 10, through that", x.overrides(15, 10), 1);
    }

    private static void interfaces(Due due) {
        OverrideRules x = new OverrideRules();
        x.type(Due.INTERFACE, 0, Due.NONE);
        x.type(Due.INTERFACE, 1, Due.NONE);
        x.type(Due.CLASS, 2, Due.NONE);
        x.type(Due.CLASS, 3, 2);
        x.face(1, 0);
        x.face(2, 1);
        x.member(0, 0, 16, Due.ABSTRACT);
        x.member(1, 0, 16, Due.DEFAULT);
        x.member(3, 0, 16, 0);
        x.member(0, 1, 16, Due.PRIVATE);
        x.member(0, 2, 16, Due.STATIC);
        x.member(3, 1, 16, 1);
        x.member(3, 2, 16, 1);
        due.is("interface over interface", x.overrides(1, 0), 1);
        due.is("class over its parent's face", x.overrides(2, 1), 1);
        due.is("class over that one's face, elsewhere", x.overrides(2, 0), 1);
        due.is("not a private one", x.overrides(5, 3), 0);
        due.is("not a static one", x.overrides(6, 4), 0);
    }
}
