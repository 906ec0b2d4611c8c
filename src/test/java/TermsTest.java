/** The bounds that "Terms" names: the last number within each of them does all that it should. */
public final class TermsTest {
    private static final Due DUE = new Due();

    public static void main(String[] args) {
        sixteenTypes();
        kindsAndPackages();
        parentsAndFacesAreLess();
        threeFaces();
        aboveIsAllTheWay();
        eightThrows();
        sixtyMembers();
        eightNames();
        resultsThatAreThere();
        plainResults();
        ofThePackage();
        publicWithoutMark();
        theLast512thCall();
        DUE.end();
    }

    /** "TYPES are numbered from 0 on, 16 at most". */
    private static void sixteenTypes() {
        for (int kind = 0; kind < 3; kind++) {
            OverrideRules x = new OverrideRules();
            for (int t = 0; t < 16; t++) {
                DUE.is("type " + t + " of kind " + kind, x.type(kind, t % 4, Due.NONE), t);
                DUE.is("so many", x.told(0), t + 1);
            }
            DUE.is("a 17th of kind " + kind, x.type(kind, 0, Due.NONE), Due.ROOM);
            DUE.is("again", x.type(kind, 0, Due.NONE), Due.ROOM);
            DUE.is("there are 16", x.told(0), 16);
            DUE.is("16 is none", x.check(16), Due.UNKNOWN);
            DUE.is("15 is one", x.check(15), 0);
        }
    }

    /** "of a KIND: 0 .., 1 .., 2 ..; in a PACKAGE (0 to 3)". */
    private static void kindsAndPackages() {
        OverrideRules x = new OverrideRules();
        for (int i = 0; i < 12; i++) {
            DUE.is("kind " + i / 4 + " in package " + i % 4, x.type(i / 4, i % 4, Due.NONE), i);
        }
        for (int a = 0; a < 4; a++) {
            for (int b = 0; b < 4; b++) {
                x = Trees.chain(new int[] {a, b}, new int[] {0, 0});
                DUE.is("packages " + a + " and " + b, x.overrides(1, 0), a == b ? 1 : 0);
            }
        }
    }

    /** "PARENT and FACES of a TYPE have lesser numbers": the one before it is the greatest. */
    private static void parentsAndFacesAreLess() {
        OverrideRules x = new OverrideRules();
        DUE.is("a parent of its own number", x.type(0, 0, 0), Due.UNKNOWN);
        x.type(Due.CLASS, 0, Due.NONE);
        DUE.is("the parent before it", x.type(0, 0, 0), 1);
        x = new OverrideRules();
        for (int t = 0; t < 16; t++) {
            x.type(Due.INTERFACE, 0, Due.NONE);
        }
        DUE.is("a face of its own number", x.face(15, 15), Due.OUTSIDE);
        DUE.is("a face of a greater number", x.face(14, 15), Due.OUTSIDE);
        DUE.is("the first has none that is less", x.face(0, 0), Due.OUTSIDE);
        DUE.is("the face before it", x.face(15, 14), 1);
        DUE.is("the first face of all", x.face(15, 0), 2);
        DUE.is("of the second TYPE", x.face(1, 0), 1);
    }

    /** "a TYPE has at most 3 FACES", of whatever KIND it is. */
    private static void threeFaces() {
        for (int kind = 0; kind < 3; kind++) {
            OverrideRules x = Trees.interfacesAndClass(4, kind);
            for (int f = 0; f < 3; f++) {
                DUE.is("face " + f + " of kind " + kind, x.face(4, f), f + 1);
            }
            DUE.is("a fourth", x.face(4, 3), Due.ROOM);
            DUE.is("again", x.face(4, 3), Due.ROOM);
            for (int f = 0; f < 4; f++) {
                DUE.is("sub to face " + f, x.sub(4, f), f < 3 ? 1 : 0);
            }
        }
        OverrideRules x = Trees.interfacesAndClass(4, Due.CLASS);
        x.face(3, 0);
        x.face(3, 1);
        x.face(3, 2);
        DUE.is("faces of a face are not its own: one", x.face(4, 3), 1);
        DUE.is("two", x.face(4, 2), 2);
        DUE.is("three", x.face(4, 1), 3);
        x.type(Due.CLASS, 0, 4);
        DUE.is("nor are those of a parent: one", x.face(5, 3), 1);
        DUE.is("two", x.face(5, 1), 2);
        DUE.is("three", x.face(5, 0), 3);
    }

    /** "ABOVE a TYPE are its PARENT, its FACES, and all that are above these". */
    private static void aboveIsAllTheWay() {
        OverrideRules classes = new OverrideRules();
        OverrideRules interfaces = new OverrideRules();
        for (int t = 0; t < 16; t++) {
            classes.type(t % 2, 0, t - 1);
            interfaces.type(Due.INTERFACE, 0, Due.NONE);
        }
        // From the last on, so that each face is told after what is below it.
        for (int t = 15; t > 0; t--) {
            interfaces.face(t, t - 1);
        }
        for (int t = 0; t < 16; t++) {
            DUE.is("the last class and class " + t, classes.sub(15, t), 1);
            DUE.is("class " + t + " and the last", classes.sub(t, 15), t == 15 ? 1 : 0);
            DUE.is("the last interface and interface " + t, interfaces.sub(15, t), 1);
            DUE.is("interface " + t + " and the last", interfaces.sub(t, 15), t == 15 ? 1 : 0);
            DUE.is("class " + t + " and itself", classes.sub(t, t), 1);
        }
        OverrideRules apart = Trees.interfacesAndClass(2, Due.CLASS);
        apart.face(2, 0);
        DUE.is("one face", apart.sub(2, 0), 1);
        DUE.is("not the one beside", apart.sub(2, 1), 0);
        DUE.is("faces are not one another's", apart.sub(1, 0), 0);
        apart.type(Due.CLASS, 0, 2);
        apart.type(Due.CLASS, 0, 2);
        DUE.is("two below one class", apart.sub(4, 3), 0);
        DUE.is("a face of a parent", apart.sub(4, 0), 1);
    }

    /** "THROWS are numbered from 0 on, 8 at most .. to which (and to all to which that is)". */
    private static void eightThrows() {
        for (int allowed = 0; allowed < 8; allowed++) {
            for (int thrown = 0; thrown < 8; thrown++) {
                OverrideRules chain = Trees.pair(Due.PUBLIC, Due.PUBLIC, 0);
                OverrideRules apart = Trees.pair(Due.PUBLIC, Due.PUBLIC, 0);
                for (int which = 0; which < 8; which++) {
                    DUE.is("throw " + which, chain.thrown0(which - 1, true), which);
                    DUE.is("throw " + which, apart.thrown0(Due.NONE, true), which);
                }
                chain.throws0(0, allowed);
                chain.throws0(1, thrown);
                apart.throws0(0, allowed);
                apart.throws0(1, thrown);
                String what = thrown + " where " + allowed + " is allowed";
                DUE.is("each below the last, " + what, chain.check(1), thrown < allowed ? 1 : 0);
                DUE.is("none below another, " + what, apart.check(1), thrown != allowed ? 1 : 0);
            }
        }
    }

    /** "MEMBERS are numbered from 0 on, 60 at most". */
    private static void sixtyMembers() {
        OverrideRules x = Trees.full();
        DUE.is("types", x.told(0), 16);
        DUE.is("throws", x.told(1), 8);
        DUE.is("members", x.told(2), 60);
        DUE.is("no more", x.member(0, 7, 16, Due.DEFAULT), Due.ROOM);
        DUE.is("again", x.member(15, 7, 16, 0), Due.ROOM);
        DUE.is("59 is one", x.overrides(59, 59), 0);
        DUE.is("60 is none", x.overrides(60, 59), Due.UNKNOWN);
        DUE.is("the last one throws", x.throws0(59, 7), 0);
        DUE.is("and throws more", x.throws0(59, 0), 1);
        DUE.is("clear", x.clear(), 60);
        DUE.is("room again", x.type(0, 0, Due.NONE), 0);
        DUE.is("for a member", x.member(0, 0, 16, 0), 0);
    }

    /** "a NAME (0 to 7; no two of one TYPE have the same)". */
    private static void eightNames() {
        OverrideRules x = new OverrideRules();
        x.type(Due.CLASS, 0, Due.NONE);
        x.type(Due.CLASS, 0, 0);
        for (int i = 0; i < 16; i++) {
            DUE.is("type " + i / 8 + " name " + i % 8, x.member(i / 8, i % 8, 16, 1), i);
        }
        for (int i = 0; i < 16; i++) {
            DUE.is("once more", x.member(i / 8, i % 8, 17, 2), Due.OUTSIDE);
        }
        for (int i = 0; i < 64; i++) {
            int name = i % 8;
            DUE.is("name " + i / 8 + " over " + name, x.overrides(8 + i / 8, name), i / 8 == name ? 1 : 0);
        }
    }

    /** "RESULT (0 to 15: that TYPE, which is there when the MEMBER is told ..)". */
    private static void resultsThatAreThere() {
        OverrideRules x = new OverrideRules();
        for (int t = 0; t < 16; t++) {
            x.type(Due.CLASS, 0, Due.NONE);
            if (t < 15) {
                DUE.is("result " + (t + 1) + " before it is there", x.member(t, 0, t + 1, 0), Due.UNKNOWN);
            }
            DUE.is("result " + t + ", its own type", x.member(t, 0, t, 0), 2 * t);
            DUE.is("result 0", x.member(t, 1, 0, 0), 2 * t + 1);
        }
        DUE.is("result 15, of the first type", x.member(0, 2, 15, 0), 32);
    }

    /** "16 to 19: a plain one": there without any TYPE of that number. */
    private static void plainResults() {
        OverrideRules x = new OverrideRules();
        x.type(Due.CLASS, 0, Due.NONE);
        DUE.is("15, a type that there is not", x.member(0, 0, 15, 0), Due.UNKNOWN);
        for (int result = 16; result < 20; result++) {
            DUE.is("result " + result, x.member(0, result - 16, result, 0), result - 16);
        }
        DUE.is("20", x.member(0, 7, 20, 0), Due.OUTSIDE);
    }

    /** "none: it is of the PACKAGE". */
    private static void ofThePackage() {
        int[] without = {0, Due.FINAL, Due.ABSTRACT, Due.MARKED};
        for (int marks : without) {
            DUE.is("in it, marks " + marks, Trees.pair(1, marks, 0).overrides(1, 0), 1);
            DUE.is("out of it, marks " + marks, Trees.pair(1, marks, 1).overrides(1, 0), 0);
        }
        DUE.is("static, in it", Trees.pair(9, Due.STATIC, 0).hides(1, 0), 1);
        DUE.is("static, out of it", Trees.pair(9, Due.STATIC, 1).hides(1, 0), 0);
    }

    /** "all but PRIVATE ones are PUBLIC, whether that is marked or not". */
    private static void publicWithoutMark() {
        int[] marks = {Due.ABSTRACT, Due.DEFAULT, Due.ABSTRACT | Due.PUBLIC, Due.DEFAULT | Due.PUBLIC};
        for (int above : marks) {
            OverrideRules x = Trees.interfacesAndClass(1, Due.ABSTRACT_CLASS);
            x.face(1, 0);
            x.member(0, 0, 16, above);
            x.member(1, 0, 16, Due.PROTECTED);
            DUE.faults("a protected one in a class below " + above, x, 1, 3, 1, 0);
            for (int below : marks) {
                x = Trees.interfacesAndClass(1, Due.INTERFACE);
                x.face(1, 0);
                x.member(0, 0, 16, above);
                x.member(1, 0, 16, below);
                DUE.faults(below + " in an interface below " + above, x, 1);
            }
        }
    }

    /** "at most 512 calls": the last of them is answered like the first. */
    private static void theLast512thCall() {
        OverrideRules x = new OverrideRules();
        for (int call = 0; call < 510; call++) {
            DUE.is("call " + call, call % 2 == 0 ? x.type(0, 0, Due.NONE) : x.clear(), 0);
        }
        DUE.is("the 511th", x.type(0, 3, Due.NONE), 0);
        DUE.is("the 512th", x.member(0, 7, 19, Due.PUBLIC), 0);
    }
}
