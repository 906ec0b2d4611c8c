/**
 * Members that override, hide and implement one another in a tree of classes and interfaces.
 *
 * <p>Words in capitals (TYPE, MEMBER, OVERRIDES, CHOSEN ..) are the document's terms.
 */
public final class OverrideRules {
    public static final int NONE = -1, UNKNOWN = -2, OUTSIDE = -3, ROOM = -4, FIGHT = -5;

    private static final int MOST_TYPES = 16;
    private static final int MOST_FACES = 3;
    private static final int MOST_THROWS = 8;
    private static final int MOST_MEMBERS = 60;
    private static final int PACKAGES = 4;
    private static final int NAMES = 8;
    private static final int RESULTS = 20;

    private static final int CLASS = 0;
    private static final int INTERFACE = 2;

    private static final int PUBLIC = 1;
    private static final int PROTECTED = 2;
    private static final int PRIVATE = 4;
    private static final int STATIC = 8;
    private static final int FINAL = 16;
    private static final int ABSTRACT = 32;
    private static final int DEFAULT = 64;
    private static final int MARKED = 128;
    private static final int ALL_MARKS = 255;

    private static final int FAULT_MIXED = 1;
    private static final int FAULT_FINAL = 2;
    private static final int FAULT_ACCESS = 3;
    private static final int FAULT_RESULT = 4;
    private static final int FAULT_THROWS = 5;
    private static final int FAULT_MARKED = 6;
    private static final int FAULT_ABSTRACT = 7;
    private static final int FAULT_FIGHT = 8;
    private static final int FAULT_LEFT_ABSTRACT = 9;

    private final Types types;
    private final Throws thrown;
    private final Members members;
    private final Choice choice;
    private final Faults faults;

    public OverrideRules() {
        types = new Types();
        thrown = new Throws();
        members = new Members(types);
        choice = new Choice(types, members);
        faults = new Faults(types, thrown, members, choice);
    }

    /** Forgets everything; answers how many MEMBERS there were. */
    public int clear() {
        int had = members.size();
        types.forget();
        thrown.forget();
        members.forget();
        return had;
    }

    /** A new TYPE: its number. */
    public int type(int kind, int packet, int parent) {
        if (parent != NONE && !types.has(parent)) {
            return UNKNOWN;
        }
        if (kind < CLASS || kind > INTERFACE || packet < 0 || packet >= PACKAGES) {
            return OUTSIDE;
        }
        if (parent != NONE && (kind == INTERFACE || types.isInterface(parent))) {
            return OUTSIDE;
        }
        return types.isFull() ? ROOM : types.add(kind, packet, parent);
    }

    /** A FACE more for a TYPE: how many it has then. */
    public int face(int type, int other) {
        if (!types.has(type) || !types.has(other)) {
            return UNKNOWN;
        }
        if (!types.isInterface(other) || other >= type || types.hasFace(type, other)) {
            return OUTSIDE;
        }
        return types.countFaces(type) >= MOST_FACES ? ROOM : types.addFace(type, other);
    }

    /** A new THROW: its number. */
    public int thrown0(int parent, boolean checked) {
        if (parent != NONE && !thrown.has(parent)) {
            return UNKNOWN;
        }
        return thrown.isFull() ? ROOM : thrown.add(parent, checked);
    }

    /** A new MEMBER without THROWS: its number. */
    public int member(int type, int name, int result, int marks) {
        if (!types.has(type) || isMissingType(result)) {
            return UNKNOWN;
        }
        if (name < 0 || name >= NAMES || result < 0 || result >= RESULTS) {
            return OUTSIDE;
        }
        if (!areMarks(types.isInterface(type), marks) || members.at(type, name) != NONE) {
            return OUTSIDE;
        }
        return members.isFull() ? ROOM : members.add(type, name, result, marks);
    }

    /** A MEMBER may throw a THROW from now on: 1; 0 if it did so. */
    public int throws0(int member, int which) {
        if (!members.has(member) || !thrown.has(which)) {
            return UNKNOWN;
        }
        return oneIf(members.addThrow(member, which));
    }

    /** Whether a MEMBER OVERRIDES another one: 1, 0. */
    public int overrides(int member, int other) {
        if (!members.has(member) || !members.has(other)) {
            return UNKNOWN;
        }
        return oneIf(members.isOverriding(member, other));
    }

    /** Whether a MEMBER HIDES another one: 1, 0. */
    public int hides(int member, int other) {
        if (!members.has(member) || !members.has(other)) {
            return UNKNOWN;
        }
        return oneIf(members.isHiding(member, other));
    }

    /** The MEMBER that is CHOSEN for a class and a MEMBER, or FIGHT. */
    public int chosen(int type, int member) {
        if (!types.has(type) || !members.has(member)) {
            return UNKNOWN;
        }
        if (types.isInterface(type) || !members.isInheritable(member)
                || !types.isSub(type, members.typeOf(member))) {
            return OUTSIDE;
        }
        return choice.choose(type, member);
    }

    /** Whether a TYPE is SUB to another one: 1, 0. */
    public int sub(int type, int other) {
        if (!types.has(type) || !types.has(other)) {
            return UNKNOWN;
        }
        return oneIf(types.isSub(type, other));
    }

    /** How many FAULTS a TYPE has. */
    public int check(int type) {
        if (!types.has(type)) {
            return UNKNOWN;
        }
        return faults.walk(type, NONE);
    }

    /** Of FAULT i of a TYPE: its code (what = 0), m (1), o (2). */
    public int fault(int type, int i, int what) {
        if (!types.has(type)) {
            return UNKNOWN;
        }
        if (what < 0 || what > 2) {
            return OUTSIDE;
        }
        faults.walk(type, i);
        return faults.pickedPart(what);
    }

    /** How many BRIDGES a TYPE needs. */
    public int bridges(int type) {
        if (!types.has(type)) {
            return UNKNOWN;
        }
        int sum = 0;
        for (int m = 0; m < members.size(); m++) {
            if (members.typeOf(m) == type && !members.hasMark(m, STATIC | ABSTRACT)) {
                sum += members.countBridges(m);
            }
        }
        return sum;
    }

    /** Of a TYPE's MEMBERS the one that OVERRIDES the most. */
    public int first(int type) {
        if (!types.has(type)) {
            return UNKNOWN;
        }
        int best = NONE;
        int most = NONE;
        for (int m = 0; m < members.size(); m++) {
            int count = members.typeOf(m) == type ? members.countOverridden(m) : NONE;
            if (count > most) {
                best = m;
                most = count;
            }
        }
        return best;
    }

    /** How many TYPES (0), THROWS (1), MEMBERS (2), FAULTS of all TYPES (3) there are. */
    public int told(int what) {
        switch (what) {
            case 0:
                return types.size();
            case 1:
                return thrown.size();
            case 2:
                return members.size();
            case 3:
                int sum = 0;
                for (int t = 0; t < types.size(); t++) {
                    sum += faults.walk(t, NONE);
                }
                return sum;
            default:
                return OUTSIDE;
        }
    }

    private boolean isMissingType(int result) {
        return result >= 0 && result < MOST_TYPES && !types.has(result);
    }

    private static boolean areMarks(boolean inInterface, int marks) {
        if (marks < 0 || marks > ALL_MARKS) {
            return false;
        }
        if (Integer.bitCount(marks & (PUBLIC | PROTECTED | PRIVATE)) > 1) {
            return false;
        }
        return inInterface ? areInterfaceMarks(marks) : areClassMarks(marks);
    }

    private static boolean areClassMarks(int marks) {
        if ((marks & DEFAULT) != 0) {
            return false;
        }
        return (marks & ABSTRACT) == 0 || (marks & (PRIVATE | STATIC | FINAL)) == 0;
    }

    private static boolean areInterfaceMarks(int marks) {
        if ((marks & (PROTECTED | FINAL)) != 0) {
            return false;
        }
        int ways = marks & (PRIVATE | STATIC | ABSTRACT | DEFAULT);
        return Integer.bitCount(ways) == 1 || ways == (PRIVATE | STATIC);
    }

    private static int oneIf(boolean holds) {
        return holds ? 1 : 0;
    }

    private static boolean hasBit(int set, int number) {
        return (set >> number & 1) != 0;
    }

    /** The TYPES; sets of them are ints with a bit for each number. */
    private static final class Types {
        private final int[] kinds = new int[MOST_TYPES];
        private final int[] packets = new int[MOST_TYPES];
        private final int[] parents = new int[MOST_TYPES];
        private final int[] faces = new int[MOST_TYPES];
        private final int[] above = new int[MOST_TYPES];
        private int count = 0;

        void forget() {
            count = 0;
        }

        int size() {
            return count;
        }

        boolean has(int type) {
            return type >= 0 && type < count;
        }

        boolean isFull() {
            return count >= MOST_TYPES;
        }

        int add(int kind, int packet, int parent) {
            int type = count;
            kinds[type] = kind;
            packets[type] = packet;
            parents[type] = parent;
            faces[type] = 0;
            count++;
            findAbove(type);
            return type;
        }

        int addFace(int type, int face) {
            faces[type] |= 1 << face;
            // Types below this one may have been told before its new face.
            for (int t = type; t < count; t++) {
                findAbove(t);
            }
            return countFaces(type);
        }

        /** Needs the sets of all lesser numbers, among which all above stand. */
        private void findAbove(int type) {
            int parent = parents[type];
            int set = faces[type];
            if (parent != NONE) {
                set |= 1 << parent | above[parent];
            }
            for (int f = 0; f < type; f++) {
                if (hasBit(faces[type], f)) {
                    set |= above[f];
                }
            }
            above[type] = set;
        }

        boolean hasFace(int type, int face) {
            return hasBit(faces[type], face);
        }

        int countFaces(int type) {
            return Integer.bitCount(faces[type]);
        }

        boolean isInterface(int type) {
            return kinds[type] == INTERFACE;
        }

        /** Of the KIND 0: a class that is not ABSTRACT. */
        boolean isPlainClass(int type) {
            return kinds[type] == CLASS;
        }

        int parentOf(int type) {
            return parents[type];
        }

        int packetOf(int type) {
            return packets[type];
        }

        int allAbove(int type) {
            return above[type];
        }

        boolean isBelow(int type, int other) {
            return (above[type] >> other & 1) != 0;
        }

        boolean isSub(int type, int other) {
            return type == other || (above[type] >> other & 1) != 0;
        }
    }

    /** The THROWS; sets of them are ints with a bit for each number. */
    private static final class Throws {
        private final int[] subTo = new int[MOST_THROWS];
        private int checkedOnes = 0;
        private int count = 0;

        void forget() {
            checkedOnes = 0;
            count = 0;
        }

        int size() {
            return count;
        }

        boolean has(int which) {
            return which >= 0 && which < count;
        }

        boolean isFull() {
            return count >= MOST_THROWS;
        }

        int add(int parent, boolean checked) {
            int which = count;
            subTo[which] = 1 << which;
            if (parent != NONE) {
                subTo[which] |= subTo[parent];
            }
            if (checked) {
                checkedOnes |= 1 << which;
            }
            count++;
            return which;
        }

        /** Whether each CHECKED one of a set is SUB to one of the allowed set. */
        boolean areAllowed(int set, int allowed) {
            for (int which = 0; which < count; which++) {
                if (hasBit(set & checkedOnes, which) && (subTo[which] & allowed) == 0) {
                    return false;
                }
            }
            return true;
        }
    }

    /** The MEMBERS, and what two of them are to one another. */
    private static final class Members {
        private final Types types;
        private final int[] owners = new int[MOST_MEMBERS];
        private final int[] names = new int[MOST_MEMBERS];
        private final int[] results = new int[MOST_MEMBERS];
        private final int[] marks = new int[MOST_MEMBERS];
        private final int[] throwSets = new int[MOST_MEMBERS];
        /** For each TYPE and NAME one more than the MEMBER's number, or 0. */
        private final int[] slots = new int[MOST_TYPES * NAMES];
        private int count = 0;

        Members(Types types) {
            this.types = types;
        }

        void forget() {
            for (int i = 0; i < slots.length; i++) {
                slots[i] = 0;
            }
            count = 0;
        }

        int size() {
            return count;
        }

        boolean has(int member) {
            return member >= 0 && member < count;
        }

        boolean isFull() {
            return count >= MOST_MEMBERS;
        }

        int add(int type, int name, int result, int told) {
            int member = count;
            owners[member] = type;
            names[member] = name;
            results[member] = result;
            boolean becomesPublic = types.isInterface(type) && (told & PRIVATE) == 0;
            marks[member] = becomesPublic ? told | PUBLIC : told;
            throwSets[member] = 0;
            count++;
            slots[type * NAMES + name] = count;
            return member;
        }

        boolean addThrow(int member, int which) {
            boolean isNew = !hasBit(throwSets[member], which);
            throwSets[member] |= 1 << which;
            return isNew;
        }

        /** The MEMBER of a TYPE with a NAME, or NONE. */
        int at(int type, int name) {
            int slot = slots[type * NAMES + name];
            return slot == 0 ? NONE : slot - 1;
        }

        int typeOf(int member) {
            return owners[member];
        }

        int nameOf(int member) {
            return names[member];
        }

        int resultOf(int member) {
            return results[member];
        }

        int thrownBy(int member) {
            return throwSets[member];
        }

        /** Whether it has at least one of the marks. */
        boolean hasMark(int member, int anyOf) {
            return (marks[member] & anyOf) != 0;
        }

        /** Whether it is a MEMBER that is neither STATIC nor PRIVATE. */
        boolean isInheritable(int member) {
            return member != NONE && (marks[member] & (STATIC | PRIVATE)) == 0;
        }

        /** 0 for PRIVATE to 3 for PUBLIC. */
        int accessOf(int member) {
            if (hasMark(member, PRIVATE)) {
                return 0;
            }
            if (hasMark(member, PROTECTED)) {
                return 2;
            }
            return hasMark(member, PUBLIC) ? 3 : 1;
        }

        boolean isOverriding(int m, int o) {
            if (!isOfNameBelow(m, o) || hasMark(m, STATIC) || !isInheritable(o)) {
                return false;
            }
            return types.isInterface(owners[o]) || isReached(m, o);
        }

        boolean isHiding(int m, int o) {
            return isOfNameBelow(m, o) && hasMark(m, STATIC) && hasMark(o, STATIC)
                    && !types.isInterface(owners[o]) && isSeen(m, o);
        }

        boolean isMixed(int m, int o) {
            if (!isOfNameBelow(m, o) || hasMark(m, STATIC) == hasMark(o, STATIC)) {
                return false;
            }
            return types.isInterface(owners[o]) ? isInheritable(o) : isSeen(m, o);
        }

        private boolean isOfNameBelow(int m, int o) {
            return names[m] == names[o] && types.isBelow(owners[m], owners[o]);
        }

        /** Whether m's TYPE sees the MEMBER o of a class by its marks or by the PACKAGE. */
        private boolean isSeen(int m, int o) {
            if (hasMark(o, PRIVATE)) {
                return false;
            }
            return hasMark(o, PUBLIC | PROTECTED)
                    || types.packetOf(owners[m]) == types.packetOf(owners[o]);
        }

        /**
         * Whether m OVERRIDES the MEMBER o of a class above. The TYPES between are then one chain
         * of parents, and each MEMBER that m OVERRIDES there opens its own PACKAGE to m: so one
         * walk up, gathering PACKAGES, answers the rule that is told by itself.
         */
        private boolean isReached(int m, int o) {
            int opened = 1 << types.packetOf(owners[m]);
            int type = types.parentOf(owners[m]);
            for (int step = 0; step < MOST_TYPES && type != NONE; step++) {
                int k = at(type, names[m]);
                int packet = types.packetOf(type);
                boolean isOverridden = isInheritable(k)
                        && (hasMark(k, PUBLIC | PROTECTED) || hasBit(opened, packet));
                if (k == o) {
                    return isOverridden;
                }
                if (isOverridden) {
                    opened |= 1 << packet;
                }
                type = types.parentOf(type);
            }
            return false;
        }

        int countOverridden(int m) {
            int sum = 0;
            for (int o = 0; o < count; o++) {
                sum += oneIf(isOverriding(m, o));
            }
            return sum;
        }

        /** How many RESULTS other than its own the MEMBERS have that it OVERRIDES. */
        int countBridges(int m) {
            int others = 0;
            for (int o = 0; o < count; o++) {
                if (results[o] != results[m] && isOverriding(m, o)) {
                    others |= 1 << results[o];
                }
            }
            return Integer.bitCount(others);
        }
    }

    /** Which MEMBER is CHOSEN. */
    private static final class Choice {
        private final Types types;
        private final Members members;

        Choice(Types types, Members members) {
            this.types = types;
            this.members = members;
        }

        /** For a class and a MEMBER, neither STATIC nor PRIVATE, of it or of a TYPE above. */
        int choose(int type, int o) {
            int name = members.nameOf(o);
            boolean takesAny = types.isInterface(members.typeOf(o));
            int here = type;
            for (int step = 0; step < MOST_TYPES && here != NONE; step++) {
                int n = members.at(here, name);
                if (members.isInheritable(n)
                        && (takesAny || n == o || members.isOverriding(n, o))) {
                    return n;
                }
                here = types.parentOf(here);
            }
            return chooseOfInterfaces(type, name);
        }

        private int chooseOfInterfaces(int type, int name) {
            int having = 0;
            int covered = 0;
            for (int t = 0; t < type; t++) {
                if (types.isInterface(t) && types.isBelow(type, t)
                        && members.isInheritable(members.at(t, name))) {
                    having |= 1 << t;
                    covered |= types.allAbove(t);
                }
            }
            return leastOrFight(having & ~covered, name);
        }

        /** All TYPES of the set have a MEMBER of the NAME. */
        private int leastOrFight(int set, int name) {
            int least = NONE;
            boolean anyDefault = false;
            for (int t = 0; t < types.size(); t++) {
                int n = hasBit(set, t) ? members.at(t, name) : NONE;
                if (n != NONE) {
                    least = least == NONE ? n : Math.min(least, n);
                    anyDefault = anyDefault || members.hasMark(n, DEFAULT);
                }
            }
            return anyDefault && Integer.bitCount(set) > 1 ? FIGHT : least;
        }
    }

    /** Walks the FAULTS of a TYPE in their order: counts them, and picks a wanted one. */
    private static final class Faults {
        private final Types types;
        private final Throws thrown;
        private final Members members;
        private final Choice choice;
        private int wanted = NONE;
        private int count = 0;
        private int pickedCode = NONE;
        private int pickedM = NONE;
        private int pickedO = NONE;

        Faults(Types types, Throws thrown, Members members, Choice choice) {
            this.types = types;
            this.thrown = thrown;
            this.members = members;
            this.choice = choice;
        }

        /** Answers how many there are; the wanted one, if there is such, is picked. */
        int walk(int type, int i) {
            wanted = i;
            count = 0;
            pickedCode = NONE;
            pickedM = NONE;
            pickedO = NONE;
            for (int m = 0; m < members.size(); m++) {
                if (members.typeOf(m) == type) {
                    walkOwn(m);
                }
            }
            if (!types.isInterface(type)) {
                walkInherited(type);
            }
            return count;
        }

        /** The code (0), m (1) or o (2) of the picked FAULT; NONE if none is picked. */
        int pickedPart(int what) {
            if (what == 0) {
                return pickedCode;
            }
            return what == 1 ? pickedM : pickedO;
        }

        private void note(int code, int m, int o) {
            if (count == wanted) {
                pickedCode = code;
                pickedM = m;
                pickedO = o;
            }
            count++;
        }

        private void noteIf(boolean isWrong, int code, int m, int o) {
            if (isWrong) {
                note(code, m, o);
            }
        }

        private void walkOwn(int m) {
            boolean overridesAny = false;
            for (int o = 0; o < members.size(); o++) {
                boolean isOverriding = members.isOverriding(m, o);
                overridesAny = overridesAny || isOverriding;
                noteIf(members.isMixed(m, o), FAULT_MIXED, m, o);
                if (isOverriding || members.isHiding(m, o)) {
                    noteIf(members.hasMark(o, FINAL), FAULT_FINAL, m, o);
                    compare(m, o);
                }
            }
            noteIf(members.hasMark(m, MARKED) && !overridesAny, FAULT_MARKED, m, NONE);
            noteIf(members.hasMark(m, ABSTRACT) && types.isPlainClass(members.typeOf(m)),
                    FAULT_ABSTRACT, m, NONE);
        }

        private void compare(int m, int o) {
            noteIf(members.accessOf(m) < members.accessOf(o), FAULT_ACCESS, m, o);
            noteIf(!suits(members.resultOf(m), members.resultOf(o)), FAULT_RESULT, m, o);
            noteIf(!thrown.areAllowed(members.thrownBy(m), members.thrownBy(o)),
                    FAULT_THROWS, m, o);
        }

        /** Results that are no TYPES suit only themselves. */
        private boolean suits(int result, int other) {
            if (result == other) {
                return true;
            }
            return types.has(result) && types.has(other) && types.isSub(result, other);
        }

        private void walkInherited(int type) {
            for (int o = 0; o < members.size(); o++) {
                if (members.isInheritable(o) && members.hasMark(o, ABSTRACT | DEFAULT)
                        && types.isBelow(type, members.typeOf(o))) {
                    noteChosen(type, choice.choose(type, o), o);
                }
            }
        }

        private void noteChosen(int type, int n, int o) {
            if (n == FIGHT) {
                note(FAULT_FIGHT, NONE, o);
            } else if (n != NONE && members.typeOf(n) != type) {
                noteIf(types.isPlainClass(type) && members.hasMark(n, ABSTRACT),
                        FAULT_LEFT_ABSTRACT, n, o);
                if (isMetByChance(n, o)) {
                    compare(n, o);
                }
            }
        }

        /** A class's MEMBER that stands for an INTERFACE's which that class knows nothing of. */
        private boolean isMetByChance(int n, int o) {
            int owner = members.typeOf(n);
            int asked = members.typeOf(o);
            return types.isInterface(asked) && !types.isInterface(owner)
                    && !types.isBelow(owner, asked);
        }
    }
}
