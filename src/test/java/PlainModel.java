import java.util.ArrayList;
import java.util.HashSet;
import java.util.List;
import java.util.Set;

/**
 * The document, written out sentence by sentence with no thought of speed or room: what
 * RandomRunsTest holds the program against.
 */
final class PlainModel {
    private record Fault(int code, int m, int o) {}

    private static final class Type {
        int number;
        int kind;
        int packet;
        Type parent;
        final List<Type> faces = new ArrayList<>();

        boolean isInterface() {
            return kind == 2;
        }

        Set<Type> above() {
            Set<Type> all = new HashSet<>();
            if (parent != null) {
                all.add(parent);
                all.addAll(parent.above());
            }
            for (Type face : faces) {
                all.add(face);
                all.addAll(face.above());
            }
            return all;
        }

        boolean isBelow(Type other) {
            return above().contains(other);
        }

        boolean isSubTo(Type other) {
            return this == other || isBelow(other);
        }
    }

    private static final class Thrown {
        Thrown parent;
        boolean checked;

        boolean isSubTo(Thrown other) {
            return this == other || parent != null && parent.isSubTo(other);
        }
    }

    private static final class Member {
        int number;
        Type type;
        int name;
        int result;
        int marks;
        final Set<Thrown> thrown = new HashSet<>();

        boolean isPublic() {
            return (marks & 1) != 0 || type.isInterface() && !isPrivate();
        }

        boolean isProtected() {
            return (marks & 2) != 0;
        }

        boolean isPrivate() {
            return (marks & 4) != 0;
        }

        boolean isStatic() {
            return (marks & 8) != 0;
        }

        boolean isFinal() {
            return (marks & 16) != 0;
        }

        boolean isAbstract() {
            return (marks & 32) != 0;
        }

        boolean isDefault() {
            return (marks & 64) != 0;
        }

        boolean isMarked() {
            return (marks & 128) != 0;
        }

        int access() {
            return isPrivate() ? 0 : isPublic() ? 3 : isProtected() ? 2 : 1;
        }

        boolean isOpenTo(Member m) {
            return isPublic() || isProtected() || type.packet == m.type.packet;
        }
    }

    private final List<Type> types = new ArrayList<>();
    private final List<Thrown> throwns = new ArrayList<>();
    private final List<Member> members = new ArrayList<>();

    private static boolean isIn(List<?> list, int number) {
        return number >= 0 && number < list.size();
    }

    int clear() {
        int had = members.size();
        types.clear();
        throwns.clear();
        members.clear();
        return had;
    }

    int type(int kind, int packet, int parent) {
        if (parent != -1 && !isIn(types, parent)) {
            return -2;
        }
        if (kind < 0 || kind > 2 || packet < 0 || packet > 3) {
            return -3;
        }
        if (parent != -1 && kind == 2 || parent != -1 && types.get(parent).isInterface()) {
            return -3;
        }
        if (types.size() == 16) {
            return -4;
        }
        Type type = new Type();
        type.number = types.size();
        type.kind = kind;
        type.packet = packet;
        type.parent = parent == -1 ? null : types.get(parent);
        types.add(type);
        return type.number;
    }

    int face(int type, int other) {
        if (!isIn(types, type) || !isIn(types, other)) {
            return -2;
        }
        List<Type> faces = types.get(type).faces;
        if (!types.get(other).isInterface() || other >= type || faces.contains(types.get(other))) {
            return -3;
        }
        if (faces.size() == 3) {
            return -4;
        }
        faces.add(types.get(other));
        return faces.size();
    }

    int thrown0(int parent, boolean checked) {
        if (parent != -1 && !isIn(throwns, parent)) {
            return -2;
        }
        if (throwns.size() == 8) {
            return -4;
        }
        Thrown thrown = new Thrown();
        thrown.parent = parent == -1 ? null : throwns.get(parent);
        thrown.checked = checked;
        throwns.add(thrown);
        return throwns.size() - 1;
    }

    int member(int type, int name, int result, int marks) {
        if (!isIn(types, type) || result >= 0 && result <= 15 && !isIn(types, result)) {
            return -2;
        }
        if (name < 0 || name > 7 || result < 0 || result > 19 || marks < 0 || marks > 255) {
            return -3;
        }
        Member member = new Member();
        member.number = members.size();
        member.type = types.get(type);
        member.name = name;
        member.result = result;
        member.marks = marks;
        if (!isAllowed(member)) {
            return -3;
        }
        for (Member other : members) {
            if (other.type == member.type && other.name == name) {
                return -3;
            }
        }
        if (members.size() == 60) {
            return -4;
        }
        members.add(member);
        return member.number;
    }

    private static boolean isAllowed(Member m) {
        int accesses = (m.marks & 1) + (m.marks >> 1 & 1) + (m.marks >> 2 & 1);
        if (accesses > 1) {
            return false;
        }
        if (!m.type.isInterface()) {
            return !m.isDefault()
                    && !(m.isAbstract() && (m.isPrivate() || m.isStatic() || m.isFinal()));
        }
        int ways = 0;
        for (boolean way : new boolean[] {m.isPrivate(), m.isStatic(), m.isAbstract(), m.isDefault()}) {
            ways += way ? 1 : 0;
        }
        boolean fits = ways == 1 || ways == 2 && m.isPrivate() && m.isStatic();
        return fits && !m.isProtected() && !m.isFinal();
    }

    int throws0(int member, int which) {
        if (!isIn(members, member) || !isIn(throwns, which)) {
            return -2;
        }
        return members.get(member).thrown.add(throwns.get(which)) ? 1 : 0;
    }

    private boolean overrides(Member m, Member o) {
        if (m == o || m.name != o.name || m.isStatic() || o.isStatic() || o.isPrivate()
                || !m.type.isBelow(o.type)) {
            return false;
        }
        if (o.type.isInterface() || o.isOpenTo(m)) {
            return true;
        }
        for (Member k : members) {
            if (k.name == m.name && k.type.isBelow(o.type) && m.type.isBelow(k.type)
                    && overrides(k, o) && overrides(m, k)) {
                return true;
            }
        }
        return false;
    }

    private static boolean hides(Member m, Member o) {
        return m.name == o.name && m.isStatic() && o.isStatic() && m.type.isBelow(o.type)
                && !o.type.isInterface() && !o.isPrivate() && o.isOpenTo(m);
    }

    private static boolean isMixed(Member m, Member o) {
        if (m.name != o.name || m.isStatic() == o.isStatic() || !m.type.isBelow(o.type)
                || o.isPrivate()) {
            return false;
        }
        return o.type.isInterface() && !o.isStatic() || !o.type.isInterface() && o.isOpenTo(m);
    }

    int overrides(int member, int other) {
        if (!isIn(members, member) || !isIn(members, other)) {
            return -2;
        }
        return overrides(members.get(member), members.get(other)) ? 1 : 0;
    }

    int hides(int member, int other) {
        if (!isIn(members, member) || !isIn(members, other)) {
            return -2;
        }
        return hides(members.get(member), members.get(other)) ? 1 : 0;
    }

    private static boolean isInstance(Member m) {
        return !m.isStatic() && !m.isPrivate();
    }

    private int choose(Type c, Member o) {
        for (Type type = c; type != null; type = type.parent) {
            for (Member n : members) {
                if (n.type == type && n.name == o.name && isInstance(n)
                        && (n == o || overrides(n, o) || o.type.isInterface())) {
                    return n.number;
                }
            }
        }
        List<Member> such = new ArrayList<>();
        for (Member n : members) {
            if (n.name == o.name && isInstance(n) && n.type.isInterface() && c.isBelow(n.type)) {
                such.add(n);
            }
        }
        List<Member> left = new ArrayList<>();
        for (Member n : such) {
            if (such.stream().noneMatch(lower -> lower.type.isBelow(n.type))) {
                left.add(n);
            }
        }
        if (left.size() > 1 && left.stream().anyMatch(Member::isDefault)) {
            return -5;
        }
        return left.get(0).number;
    }

    int chosen(int type, int member) {
        if (!isIn(types, type) || !isIn(members, member)) {
            return -2;
        }
        Member o = members.get(member);
        if (types.get(type).isInterface() || !isInstance(o) || !types.get(type).isSubTo(o.type)) {
            return -3;
        }
        return choose(types.get(type), o);
    }

    int sub(int type, int other) {
        if (!isIn(types, type) || !isIn(types, other)) {
            return -2;
        }
        return types.get(type).isSubTo(types.get(other)) ? 1 : 0;
    }

    private List<Fault> faults(Type type) {
        List<Fault> list = new ArrayList<>();
        for (Member m : members) {
            if (m.type == type) {
                own(list, m);
            }
        }
        if (!type.isInterface()) {
            for (Member o : members) {
                if (isInstance(o) && type.isBelow(o.type) && (o.isAbstract() || o.isDefault())) {
                    inherited(list, type, o);
                }
            }
        }
        return list;
    }

    private void own(List<Fault> list, Member m) {
        int overridden = 0;
        for (Member o : members) {
            if (isMixed(m, o)) {
                list.add(new Fault(1, m.number, o.number));
            }
            if (overrides(m, o)) {
                overridden++;
            }
            if (overrides(m, o) || hides(m, o)) {
                if (o.isFinal()) {
                    list.add(new Fault(2, m.number, o.number));
                }
                threeFourFive(list, m, o);
            }
        }
        if (m.isMarked() && overridden == 0) {
            list.add(new Fault(6, m.number, -1));
        }
        if (m.isAbstract() && m.type.kind == 0) {
            list.add(new Fault(7, m.number, -1));
        }
    }

    private void threeFourFive(List<Fault> list, Member m, Member o) {
        if (m.access() < o.access()) {
            list.add(new Fault(3, m.number, o.number));
        }
        boolean suits = m.result == o.result || m.result < 16 && o.result < 16
                && types.get(m.result).isSubTo(types.get(o.result));
        if (!suits) {
            list.add(new Fault(4, m.number, o.number));
        }
        for (Thrown thrown : m.thrown) {
            if (thrown.checked && o.thrown.stream().noneMatch(thrown::isSubTo)) {
                list.add(new Fault(5, m.number, o.number));
                break;
            }
        }
    }

    private void inherited(List<Fault> list, Type type, Member o) {
        int number = choose(type, o);
        if (number == -5) {
            list.add(new Fault(8, -1, o.number));
            return;
        }
        Member n = members.get(number);
        if (type.kind == 0 && n.isAbstract() && n.type != type) {
            list.add(new Fault(9, n.number, o.number));
        }
        if (o.type.isInterface() && !n.type.isInterface() && type.isBelow(n.type)
                && !n.type.isBelow(o.type)) {
            threeFourFive(list, n, o);
        }
    }

    int check(int type) {
        return isIn(types, type) ? faults(types.get(type)).size() : -2;
    }

    int fault(int type, int i, int what) {
        if (!isIn(types, type)) {
            return -2;
        }
        if (what < 0 || what > 2) {
            return -3;
        }
        List<Fault> list = faults(types.get(type));
        if (!isIn(list, i)) {
            return -1;
        }
        Fault fault = list.get(i);
        return what == 0 ? fault.code() : what == 1 ? fault.m() : fault.o();
    }

    int bridges(int type) {
        if (!isIn(types, type)) {
            return -2;
        }
        int sum = 0;
        for (Member m : members) {
            if (m.type == types.get(type) && !m.isStatic() && !m.isAbstract()) {
                Set<Integer> results = new HashSet<>();
                for (Member o : members) {
                    if (overrides(m, o)) {
                        results.add(o.result);
                    }
                }
                results.remove(m.result);
                sum += results.size();
            }
        }
        return sum;
    }

    int first(int type) {
        if (!isIn(types, type)) {
            return -2;
        }
        int best = -1;
        long most = -1;
        for (Member m : members) {
            long count = members.stream().filter(o -> overrides(m, o)).count();
            if (m.type == types.get(type) && count > most) {
                best = m.number;
                most = count;
            }
        }
        return best;
    }

    int told(int what) {
        switch (what) {
            case 0:
                return types.size();
            case 1:
                return throwns.size();
            case 2:
                return members.size();
            case 3:
                return types.stream().mapToInt(type -> faults(type).size()).sum();
            default:
                return -3;
        }
    }
}
