/** Promise 9: hides, and MIXED, which the FAULT 1 tells. */
public final class HidesTest {
    public static void main(String[] args) {
        Due due = new Due();
        unknown(due);
        hiding(due);
        notThrough(due);
        interfaces(due);
        mixing(due);
        mixingIsNotThrough(due);
        mixingInInterfaces(due);
        due.end();
    }

    private static void unknown(Due due) {
        OverrideRules x = new OverrideRules();
        x.type(Due.CLASS, 0, Due.NONE);
        x.member(0, 0, 16, 9);
        due.is("itself", x.hides(0, 0), 0);
        due.is("UNKNOWN", x.hides(0, 1), Due.UNKNOWN);
        due.is("UNKNOWN", x.hides(1, 0), Due.UNKNOWN);
        due.is("UNKNOWN", x.hides(-1, 0), Due.UNKNOWN);
        due.is("UNKNOWN", x.hides(0, -1), Due.UNKNOWN);
    }

    private static void hiding(Due due) {
        due.is("static, static", Trees.pair(9, 9, 1).hides(1, 0), 1);
        due.is("the other way", Trees.pair(9, 9, 1).hides(0, 1), 0);
        due.is("private static, static", Trees.pair(12, 9, 1).hides(1, 0), 1);
        due.is("over a protected one", Trees.pair(9, 10, 1).hides(1, 0), 1);
        due.is("over one of the package", Trees.pair(9, 8, 0).hides(1, 0), 1);
        due.is("over one of another package", Trees.pair(9, 8, 1).hides(1, 0), 0);
        due.is("over a private one", Trees.pair(9, 12, 0).hides(1, 0), 0);
        due.is("one is not static", Trees.pair(1, 9, 0).hides(1, 0), 0);
        due.is("the other is not static", Trees.pair(9, 1, 0).hides(1, 0), 0);
        due.is("neither is static", Trees.pair(1, 1, 0).hides(1, 0), 0);
        OverrideRules x = Trees.pair(9, 9, 0);
        x.member(0, 1, 16, 9);
        due.is("another name", x.hides(1, 2), 0);
    }

    private static void notThrough(Due due) {
        OverrideRules x = Trees.chain(new int[] {0, 0, 1}, new int[] {8, 9, 9});
        due.is("hides the one between", x.hides(2, 1), 1);
        due.is("which hides the first", x.hides(1, 0), 1);
        due.is("and yet does not hide that", x.hides(2, 0), 0);
    }

    private static void interfaces(Due due) {
        OverrideRules x = new OverrideRules();
        x.type(Due.INTERFACE, 0, Due.NONE);
        x.type(Due.CLASS, 0, Due.NONE);
        x.face(1, 0);
        x.member(0, 0, 16, Due.STATIC);
        x.member(1, 0, 17, Due.STATIC);
        due.is("a static one of an interface", x.hides(1, 0), 0);
        due.faults("is free", x, 1);
    }

    private static void mixing(Due due) {
        due.faults("static under a plain one", Trees.pair(9, 1, 1), 1, 1, 1, 0);
        due.faults("plain under a static one", Trees.pair(1, 9, 1), 1, 1, 1, 0);
        due.faults("under a protected one", Trees.pair(1, 10, 1), 1, 1, 1, 0);
        due.faults("under one of the package", Trees.pair(1, 8, 0), 1, 1, 1, 0);
        due.faults("under one of another package", Trees.pair(1, 8, 1), 1);
        due.faults("under a private static one", Trees.pair(1, 12, 0), 1);
        due.faults("static under a private one", Trees.pair(9, 4, 0), 1);
        due.faults("private static under a plain one", Trees.pair(12, 1, 1), 1, 1, 1, 0);
        due.faults("private under a static one", Trees.pair(4, 9, 1), 1, 1, 1, 0);
        due.faults("static under one of the package", Trees.pair(9, 0, 0), 1, 1, 1, 0);
        due.faults("static under one of another package", Trees.pair(9, 0, 1), 1);
        due.faults("a final one above is no fault more", Trees.pair(9, 17, 1), 1, 1, 1, 0);
        due.faults("none of the one above", Trees.pair(9, 1, 1), 0);
        OverrideRules x = new OverrideRules();
        x.type(Due.INTERFACE, 0, Due.NONE);
        x.type(Due.CLASS, 1, Due.NONE);
        x.face(1, 0);
        x.member(0, 0, 16, Due.DEFAULT);
        x.member(0, 1, 16, Due.STATIC);
        x.member(0, 2, 16, Due.PRIVATE);
        x.member(1, 0, 16, Due.STATIC);
        x.member(1, 1, 16, Due.PACKAGE);
        x.member(1, 2, 16, Due.STATIC);
        due.faults("of an interface only one that is not static", x, 1, 1, 3, 0);
    }

    private static void mixingIsNotThrough(Due due) {
        OverrideRules x = Trees.chain(new int[] {0, 0, 1}, new int[] {0, 1, 9});
        due.faults("only the open one between", x, 2, 1, 2, 1);
        x = Trees.chain(new int[] {0, 1, 0}, new int[] {8, 1, 1});
        due.faults("back in the package", x, 2, 1, 2, 0);
        due.faults("not out of it", x, 1);
    }

    private static void mixingInInterfaces(Due due) {
        OverrideRules x = Trees.interfacesAndClass(1, Due.INTERFACE);
        x.face(1, 0);
        x.member(0, 0, 16, Due.DEFAULT);
        x.member(0, 1, 16, Due.ABSTRACT);
        x.member(0, 2, 16, Due.STATIC);
        x.member(0, 3, 16, Due.STATIC);
        x.member(0, 4, 16, Due.PRIVATE);
        x.member(1, 0, 17, Due.STATIC);
        x.member(1, 1, 17, Due.PRIVATE | Due.STATIC);
        x.member(1, 2, 17, Due.DEFAULT);
        x.member(1, 3, 17, Due.STATIC);
        x.member(1, 4, 17, Due.STATIC);
        due.faults("static under one that is not", x, 1, 1, 5, 0, 1, 6, 1);
    }
}
