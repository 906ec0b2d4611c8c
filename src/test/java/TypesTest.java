/** Promises 3, 4 and 11: type, face and sub. */
public final class TypesTest {
    public static void main(String[] args) {
        Due due = new Due();
        typeEdges(due);
        typeOrder(due);
        faceEdges(due);
        faceRoom(due);
        subThroughAll(due);
        due.end();
    }

    private static void typeEdges(Due due) {
        OverrideRules x = new OverrideRules();
        due.is("kind -1", x.type(-1, 0, Due.NONE), Due.OUTSIDE);
        due.is("kind 3", x.type(3, 0, Due.NONE), Due.OUTSIDE);
        due.is("package -1", x.type(0, -1, Due.NONE), Due.OUTSIDE);
        due.is("package 4", x.type(0, 4, Due.NONE), Due.OUTSIDE);
        due.is("parent that is not", x.type(0, 0, 0), Due.UNKNOWN);
        due.is("parent -2", x.type(0, 0, -2), Due.UNKNOWN);
        due.is("parent least", x.type(0, 0, Integer.MIN_VALUE), Due.UNKNOWN);
        due.is("parent most", x.type(0, 0, Integer.MAX_VALUE), Due.UNKNOWN);
        due.is("nothing changed", x.told(0), 0);
        due.is("class", x.type(0, 3, Due.NONE), 0);
        due.is("abstract", x.type(1, 0, 0), 1);
        due.is("interface", x.type(2, 1, Due.NONE), 2);
        due.is("interface with a parent", x.type(2, 0, 0), Due.OUTSIDE);
        due.is("parent an interface", x.type(0, 0, 2), Due.OUTSIDE);
        due.is("parent an interface", x.type(1, 0, 2), Due.OUTSIDE);
        due.is("parent itself", x.type(0, 0, 3), Due.UNKNOWN);
        due.is("abstract parent", x.type(0, 2, 1), 3);
        due.is("four there are", x.told(0), 4);
    }

    private static void typeOrder(Due due) {
        OverrideRules x = new OverrideRules();
        due.is("UNKNOWN before OUTSIDE", x.type(9, 9, 7), Due.UNKNOWN);
        due.is("UNKNOWN before a parent of an interface", x.type(2, 0, 7), Due.UNKNOWN);
        for (int i = 0; i < 16; i++) {
            due.is("type " + i, x.type(i % 3, i % 4, Due.NONE), i);
        }
        due.is("17th", x.type(0, 0, Due.NONE), Due.ROOM);
        due.is("17th with a parent", x.type(0, 0, 0), Due.ROOM);
        due.is("UNKNOWN before ROOM", x.type(0, 0, 16), Due.UNKNOWN);
        due.is("OUTSIDE before ROOM", x.type(3, 0, Due.NONE), Due.OUTSIDE);
        due.is("OUTSIDE before ROOM", x.type(0, 0, 2), Due.OUTSIDE);
        due.is("sixteen", x.told(0), 16);
    }

    private static void faceEdges(Due due) {
        OverrideRules x = new OverrideRules();
        due.is("no types", x.face(0, 0), Due.UNKNOWN);
        x.type(Due.INTERFACE, 0, Due.NONE);
        x.type(Due.CLASS, 0, Due.NONE);
        x.type(Due.CLASS, 0, Due.NONE);
        x.type(Due.INTERFACE, 0, Due.NONE);
        due.is("type -1", x.face(-1, 0), Due.UNKNOWN);
        due.is("type 4", x.face(4, 0), Due.UNKNOWN);
        due.is("other -1", x.face(1, -1), Due.UNKNOWN);
        due.is("other 4", x.face(1, 4), Due.UNKNOWN);
        due.is("a class", x.face(2, 1), Due.OUTSIDE);
        due.is("itself", x.face(3, 3), Due.OUTSIDE);
        due.is("greater", x.face(2, 3), Due.OUTSIDE);
        due.is("one", x.face(2, 0), 1);
        due.is("the same", x.face(2, 0), Due.OUTSIDE);
        due.is("of an interface", x.face(3, 0), 1);
    }

    private static void faceRoom(Due due) {
        OverrideRules x = new OverrideRules();
        for (int i = 0; i < 5; i++) {
            x.type(Due.INTERFACE, 0, Due.NONE);
        }
        x.type(Due.ABSTRACT_CLASS, 0, Due.NONE);
        x.type(Due.ABSTRACT_CLASS, 0, Due.NONE);
        due.is("first", x.face(6, 2), 1);
        due.is("second", x.face(6, 0), 2);
        due.is("third", x.face(6, 1), 3);
        due.is("fourth", x.face(6, 3), Due.ROOM);
        due.is("UNKNOWN before ROOM", x.face(6, 7), Due.UNKNOWN);
        due.is("there already, before ROOM", x.face(6, 2), Due.OUTSIDE);
        due.is("a class, before ROOM", x.face(6, 5), Due.OUTSIDE);
        due.is("refused", x.sub(6, 3), 0);
        due.is("taken", x.sub(6, 1), 1);
    }

    private static void subThroughAll(Due due) {
        OverrideRules x = new OverrideRules();
        x.type(Due.INTERFACE, 0, Due.NONE);
        x.type(Due.INTERFACE, 0, Due.NONE);
        x.type(Due.CLASS, 0, Due.NONE);
        x.type(Due.CLASS, 0, 2);
        x.type(Due.CLASS, 0, 3);
        due.is("itself", x.sub(4, 4), 1);
        due.is("parent", x.sub(4, 3), 1);
        due.is("parent's parent", x.sub(4, 2), 1);
        due.is("not the other way", x.sub(2, 4), 0);
        due.is("no face yet", x.sub(4, 0), 0);
        x.face(2, 1);
        due.is("face of the parent's parent, told late", x.sub(4, 1), 1);
        x.face(1, 0);
        due.is("face of that face, told later", x.sub(4, 0), 1);
        due.is("and between", x.sub(2, 0), 1);
        due.is("UNKNOWN", x.sub(5, 0), Due.UNKNOWN);
        due.is("UNKNOWN", x.sub(0, 5), Due.UNKNOWN);
        due.is("UNKNOWN", x.sub(-1, 0), Due.UNKNOWN);
        due.is("UNKNOWN", x.sub(0, -1), Due.UNKNOWN);
    }
}
