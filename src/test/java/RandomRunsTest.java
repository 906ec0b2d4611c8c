import java.util.Set;
import java.util.TreeSet;

/** Long runs of calls, made from fixed seeds, on the program and on PlainModel alike. */
public final class RandomRunsTest {
    private static final int RUNS = 400;
    private static final int CALLS = 512;
    private static final int[] ODD = {
        -1, -2, -3, -4, -5, 3, 4, 7, 8, 9, 15, 16, 17, 19, 20, 31, 32, 33, 59, 60, 61, 63, 64, 255,
        256, Integer.MIN_VALUE, Integer.MAX_VALUE,
    };
    private static final int[] CLASS_MARKS = {
        0, 0, 0, 1, 1, 1, 2, 2, 4, 8, 9, 10, 12, 16, 17, 32, 33, 34, 129, 137, 161, 128,
    };
    private static final int[] INTERFACE_MARKS = {32, 32, 33, 64, 64, 65, 4, 8, 12, 192, 160, 136};

    private final Due due = new Due();
    private final Set<Integer> codesSeen = new TreeSet<>();
    private long seed;
    private OverrideRules program;
    private PlainModel model;
    private int[] kinds;
    private int names;
    private boolean isLikelyClass;
    private int packets;

    public static void main(String[] args) {
        RandomRunsTest test = new RandomRunsTest();
        for (int run = 0; run < RUNS; run++) {
            test.run(run);
        }
        // If a fault is never met, these runs say nothing about it.
        test.due.is("all codes of faults were met", test.codesSeen.size(), 9);
        test.due.end();
    }

    private int below(int bound) {
        seed = seed * 6364136223846793005L + 1442695040888963407L;
        return (int) ((seed >>> 33) % bound);
    }

    /** Mostly a number below the bound, now and then one that makes no sense. */
    private int some(int bound) {
        if (below(24) == 0 || bound <= 0) {
            return ODD[below(ODD.length)];
        }
        return below(bound);
    }

    private void run(int number) {
        seed = number * 7919L + 17;
        program = new OverrideRules();
        model = new PlainModel();
        kinds = new int[16];
        names = 1 + below(8);
        packets = 1 + below(4);
        isLikelyClass = below(2) == 0;
        for (int call = 0; call < CALLS; call++) {
            String where = "run " + number + " call " + call + " ";
            if (call < 150 ? below(4) != 0 : below(9) == 0) {
                tell(where, below(20));
            } else {
                ask(where, below(9));
            }
        }
    }

    private void same(String call, int got, int want) {
        due.is(call, got, want);
    }

    private void tell(String where, int which) {
        if (which < 5) {
            tellType(where);
        } else if (which < 8) {
            int type = some(model.told(0));
            int other = some(Math.max(1, type));
            same(where + "face", program.face(type, other), model.face(type, other));
        } else if (which < 9) {
            int parent = below(2) == 0 ? -1 : some(model.told(1));
            boolean checked = below(3) != 0;
            same(where + "thrown0", program.thrown0(parent, checked), model.thrown0(parent, checked));
        } else if (which < 18) {
            tellMember(where);
        } else {
            int member = some(model.told(2));
            int thrown = some(model.told(1));
            same(where + "throws0", program.throws0(member, thrown), model.throws0(member, thrown));
        }
        if (below(600) == 0) {
            same(where + "clear", program.clear(), model.clear());
        }
    }

    private void tellType(String where) {
        int kind = isLikelyClass && below(3) != 0 ? below(2) : some(3);
        int packet = some(packets);
        int last = model.told(0) - 1;
        int parent = kind == 2 || below(6) == 0 ? -1 : below(3) == 0 ? some(last + 1) : lastClass(last);
        int number = model.type(kind, packet, parent);
        same(where + "type", program.type(kind, packet, parent), number);
        if (number >= 0) {
            kinds[number] = kind;
        }
    }

    private int lastClass(int last) {
        int type = last;
        while (type >= 0 && kinds[type] == 2) {
            type--;
        }
        return type;
    }

    private void tellMember(String where) {
        int type = some(model.told(0));
        int[] usual = type >= 0 && type < 16 && kinds[type] == 2 ? INTERFACE_MARKS : CLASS_MARKS;
        int marks = below(12) == 0 ? some(256) : usual[below(usual.length)];
        int name = some(names);
        int result = below(2) == 0 ? some(model.told(0)) : 16 + below(below(10) == 0 ? 5 : 2);
        same(where + "member", program.member(type, name, result, marks),
                model.member(type, name, result, marks));
    }

    private void ask(String where, int which) {
        int type = some(model.told(0));
        int m = some(model.told(2));
        int o = some(model.told(2));
        switch (which) {
            case 0 -> same(where + "overrides", program.overrides(m, o), model.overrides(m, o));
            case 1 -> same(where + "hides", program.hides(m, o), model.hides(m, o));
            case 2, 3 -> same(where + "chosen", program.chosen(type, m), model.chosen(type, m));
            case 4 -> {
                int other = some(model.told(0));
                same(where + "sub", program.sub(type, other), model.sub(type, other));
            }
            case 5 -> askFaults(where, type);
            case 6 -> same(where + "bridges", program.bridges(type), model.bridges(type));
            case 7 -> same(where + "first", program.first(type), model.first(type));
            default -> {
                int what = below(8) == 0 ? some(4) : below(4);
                same(where + "told", program.told(what), model.told(what));
            }
        }
    }

    private void askFaults(String where, int type) {
        int count = model.check(type);
        same(where + "check", program.check(type), count);
        int i = some(count + 1);
        for (int what = -1; what < 4; what++) {
            int want = model.fault(type, i, what);
            same(where + "fault " + i + " " + what, program.fault(type, i, what), want);
            if (what == 0 && want > 0) {
                codesSeen.add(want);
            }
        }
    }
}
