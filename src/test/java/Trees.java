/** Small trees that several tests start from. */
final class Trees {
    private Trees() {}

    /** Member 1 with the marks a, of a class below that of member 0 with the marks b. */
    static OverrideRules pair(int a, int b, int packet) {
        OverrideRules x = new OverrideRules();
        x.type(Due.ABSTRACT_CLASS, 0, Due.NONE);
        x.type(Due.ABSTRACT_CLASS, packet, 0);
        x.member(0, 0, 16, b);
        x.member(1, 0, 16, a);
        return x;
    }

    /** Classes, each the parent of the next, each with one member of the name 0. */
    static OverrideRules chain(int[] packets, int[] marks) {
        OverrideRules x = new OverrideRules();
        for (int i = 0; i < packets.length; i++) {
            x.type(Due.CLASS, packets[i], i - 1);
            x.member(i, 0, 16, marks[i]);
        }
        return x;
    }

    /** So many interfaces that know nothing of one another, and behind them one class. */
    static OverrideRules interfacesAndClass(int interfaces, int kind) {
        OverrideRules x = new OverrideRules();
        for (int t = 0; t < interfaces; t++) {
            x.type(Due.INTERFACE, 0, Due.NONE);
        }
        x.type(kind, 0, Due.NONE);
        return x;
    }

    /**
     * Three interfaces, an abstract class and a CLASS below it, three throws, eight members: with
     * overriding and hiding ones, a fight, and faults of several codes.
     */
    static OverrideRules small() {
        OverrideRules x = new OverrideRules();
        x.type(Due.INTERFACE, 0, Due.NONE);
        x.type(Due.INTERFACE, 1, Due.NONE);
        x.type(Due.INTERFACE, 2, Due.NONE);
        x.type(Due.ABSTRACT_CLASS, 0, Due.NONE);
        x.type(Due.CLASS, 1, 3);
        x.face(2, 0);
        x.face(3, 0);
        x.face(4, 1);
        x.thrown0(Due.NONE, true);
        x.thrown0(0, true);
        x.thrown0(Due.NONE, false);
        x.member(0, 0, 16, Due.DEFAULT);
        x.member(1, 0, 16, Due.DEFAULT);
        x.member(2, 0, 0, Due.ABSTRACT);
        x.member(3, 1, 3, Due.PROTECTED | Due.ABSTRACT);
        x.member(4, 1, 4, Due.PUBLIC | Due.MARKED);
        x.member(3, 2, 17, Due.PUBLIC | Due.STATIC);
        x.member(4, 2, 18, Due.STATIC);
        x.member(4, 3, 19, Due.PRIVATE);
        x.throws0(3, 1);
        x.throws0(4, 0);
        x.throws0(6, 2);
        return x;
    }

    /** As much as there may be: 16 types, 3 faces of the last one, 8 throws, 60 members. */
    static OverrideRules full() {
        OverrideRules x = new OverrideRules();
        for (int t = 0; t < 16; t++) {
            boolean isFace = t < 4;
            int parent = isFace || t == 4 ? Due.NONE : t - 1;
            x.type(isFace ? Due.INTERFACE : t % 2, t % 4, parent);
        }
        x.face(15, 0);
        x.face(15, 1);
        x.face(15, 2);
        for (int which = 0; which < 8; which++) {
            x.thrown0(which - 1, which % 3 != 0);
        }
        // The last type keeps the names 6 and 7 free, for members that find no room.
        for (int m = 0; m < 60; m++) {
            int type = m < 54 ? m % 15 : 15;
            int name = m < 54 ? m / 15 : m - 54;
            x.member(type, name, m % 20, type < 4 ? Due.ABSTRACT : m % 3);
        }
        x.throws0(59, 7);
        return x;
    }
}
