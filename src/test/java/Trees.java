/** Small trees that several tests start from. */
final class Trees {
    private Trees() {}

    /** Member 1 with the marks a, of a class below that of member 0 with the marks b. */
    static OverrideRules pair(int a, int b, int packet) {
        OverrideRules x = new OverrideRules();
        x.type(Due.ABSTRACT_CLASS, 0, Due.NONE);
        x.type(Due.ABSTRACT_CLASS, packet, 0);
        x.member(0, 0, 16, b);
        x.member(1, 0, 16, a);
        return x;
    }

    /** Classes, each the parent of the next, each with one member of the name 0. */
    static OverrideRules chain(int[] packets, int[] marks) {
        OverrideRules x = new OverrideRules();
        for (int i = 0; i < packets.length; i++) {
            x.type(Due.CLASS, packets[i], i - 1);
            x.member(i, 0, 16, marks[i]);
        }
        return x;
    }
}
