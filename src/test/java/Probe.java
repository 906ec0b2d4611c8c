import java.util.ArrayList;
import java.util.List;
import java.util.function.Supplier;
import java.util.function.ToIntFunction;

/** Every question, and every small telling, by which a change inside an object could be seen. */
final class Probe {
    /** The document speaks of 512 calls on one object; building it takes up to 120 of them. */
    private static final int CALLS_EACH = 300;

    private Probe() {}

    /**
     * Whether an object answers, after the call, as it does without it. Each portion of the calls
     * goes to a new pair of objects, lest one be used too long.
     */
    static boolean leavesNoTrace(Supplier<OverrideRules> made, ToIntFunction<OverrideRules> call) {
        OverrideRules like = made.get();
        List<ToIntFunction<OverrideRules>> calls = questions(like.told(0), like.told(2));
        int questions = calls.size();
        calls.addAll(tellings(like.told(0), like.told(1), like.told(2)));
        int start = 0;
        while (start < calls.size()) {
            int end = Math.min(start + CALLS_EACH, start < questions ? questions : calls.size());
            OverrideRules touched = made.get();
            OverrideRules untouched = made.get();
            call.applyAsInt(touched);
            for (ToIntFunction<OverrideRules> each : calls.subList(start, end)) {
                if (each.applyAsInt(touched) != each.applyAsInt(untouched)) {
                    return false;
                }
            }
            start = end;
        }
        return true;
    }

    /** Asks beyond the last number too, where something new would stand. */
    private static List<ToIntFunction<OverrideRules>> questions(int types, int members) {
        List<ToIntFunction<OverrideRules>> calls = new ArrayList<>();
        for (int i = 0; i < 4; i++) {
            int what = i;
            calls.add(x -> x.told(what));
        }
        for (int i = 0; i <= types; i++) {
            int type = i;
            calls.add(x -> x.check(type));
            calls.add(x -> x.bridges(type));
            calls.add(x -> x.first(type));
            for (int j = 0; j < 18; j++) {
                int which = j / 3;
                int what = j % 3;
                calls.add(x -> x.fault(type, which, what));
            }
            for (int j = 0; j <= types; j++) {
                int other = j;
                calls.add(x -> x.sub(type, other));
            }
            for (int j = 0; j <= members; j++) {
                int member = j;
                calls.add(x -> x.chosen(type, member));
            }
        }
        for (int i = 0; i <= members; i++) {
            int member = i;
            for (int j = 0; j <= members; j++) {
                int other = j;
                calls.add(x -> x.overrides(member, other));
                calls.add(x -> x.hides(member, other));
            }
        }
        return calls;
    }

    private static List<ToIntFunction<OverrideRules>> tellings(int types, int throwns, int members) {
        List<ToIntFunction<OverrideRules>> calls = new ArrayList<>();
        for (int i = 0; i < Math.min(members, 16); i++) {
            int member = members - 1 - i;
            for (int j = 0; j <= throwns; j++) {
                int which = j;
                calls.add(x -> x.throws0(member, which));
            }
        }
        for (int i = 0; i < types; i++) {
            int type = i;
            int other = (i + 1) % types;
            calls.add(x -> x.face(type, 0));
            calls.add(x -> x.face(type, other));
        }
        for (int i = 0; i < 8 * Math.min(types, 5); i++) {
            int type = types - 1 - i / 8;
            int name = i % 8;
            calls.add(x -> x.member(type, name, 16, Due.PUBLIC));
        }
        calls.add(x -> x.type(Due.CLASS, 0, Due.NONE));
        calls.add(x -> x.thrown0(Due.NONE, true));
        calls.add(x -> x.told(3));
        calls.add(x -> x.clear());
        return calls;
    }
}
