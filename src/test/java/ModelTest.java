import java.util.ArrayList;
import java.util.Arrays;
import java.util.List;

/** Long runs of all calls, the same ones each time, on the class and on the model beside it. */
public final class ModelTest {
    private static final int RUNS = 2000;
    private static final int CALLS = 512;
    private static final int[] ODD = {-2, -1, 6, 8, 32, 63, 64, 100, Integer.MIN_VALUE, Integer.MAX_VALUE};
    /** How often each call comes; building calls come more often than those that end things. */
    private static final String[] CALL_NAMES = {
        "make", "make", "make", "make", "end", "adopt", "adopt", "adopt", "entities", "isThere", "children",
        "add", "add", "add", "add", "add", "add", "take", "take", "set", "set", "value", "mark", "kinds",
        "rows", "setOf", "size", "entityAt", "entityAt", "entityAt", "entityAt",
        "question", "answers", "answersOneByOne", "answer", "answer", "answer", "answeringRows",
        "changed", "changed", "walk", "next", "next", "defer", "defer", "defer", "defer", "finish",
        "system", "stage", "stages", "run", "tick"};

    private final Archeloft store = new Archeloft();
    private final Model model = new Model();
    private final List<Integer> handles = new ArrayList<>();
    private long seed;

    private ModelTest(int run) {
        seed = 1000003L * run;
        handles.add(0);
    }

    public static void main(String[] args) {
        for (int run = 0; run < RUNS; run++) {
            new ModelTest(run).compare(run);
        }
        Check.over();
    }

    private void compare(int run) {
        for (int number = 0; number < CALLS; number++) {
            String name = CALL_NAMES[below(CALL_NAMES.length)];
            int[] arguments = arguments(name);
            String due = answerOf(true, name, arguments);
            String got = answerOf(false, name, arguments);
            if (!got.equals(due)) {
                String call = "run " + run + ", call " + number + ": " + name + Arrays.toString(arguments);
                Check.due(call, got, due);
                return;
            }
            if (name.equals("make") && !due.startsWith("throws")) {
                handles.add(Integer.parseInt(due));
            }
        }
    }

    private String answerOf(boolean byModel, String name, int[] a) {
        try {
            long answer = byModel ? model.call(name, a[0], a[1], a[2], a[3]) : call(name, a[0], a[1], a[2], a[3]);
            return Long.toString(answer);
        } catch (RuntimeException e) {
            return "throws." + (byModel ? e.getClass().getSimpleName() : Check.nameOf(e));
        }
    }

    private long call(String name, int a, int b, int c, int d) {
        switch (name) {
            case "make": return store.make();
            case "end": return store.end(a);
            case "adopt": return store.adopt(a, b);
            case "entities": return store.entities();
            case "isThere": return store.isThere(a) ? 1 : 0;
            case "children": return store.children(a);
            case "add": return store.add(a, b, c);
            case "take": return store.take(a, b);
            case "set": return store.set(a, b, c);
            case "value": return store.value(a, b);
            case "mark": return store.mark(a, b);
            case "kinds": return store.kinds(a);
            case "rows": return store.rows();
            case "setOf": return store.setOf(a);
            case "size": return store.size(a);
            case "entityAt": return store.entityAt(a, b);
            case "question": return store.question(a, b, c);
            case "answers": return store.answers(a);
            case "answersOneByOne": return store.answersOneByOne(a);
            case "answer": return store.answer(a, b);
            case "answeringRows": return store.answeringRows(a);
            case "changed": return store.changed(a, b);
            case "walk": return store.walk(a);
            case "next": return store.next();
            case "defer": return store.defer(a, b, c, d);
            case "finish": return store.finish();
            case "system": return store.system(a, b);
            case "stage": return store.stage(a);
            case "stages": return store.stages();
            case "run": return store.run();
            case "tick": return store.tick();
            default: throw new UnsupportedOperationException(name);
        }
    }

    private int[] arguments(String name) {
        switch (name) {
            case "adopt": return new int[] {handle(), below(5) == 0 ? Archeloft.NONE : handle(), 0, 0};
            case "add":
            case "take":
            case "set":
            case "value":
            case "mark": return new int[] {handle(), number(6), anyValue(), 0};
            case "entityAt": return new int[] {number(1 + below(20)), number(1 + below(8)), 0, 0};
            case "setOf":
            case "size": return new int[] {number(1 + below(64)), 0, 0, 0};
            case "question":
            case "system": return new int[] {kindSet(), kindSet(), kindSet(), 0};
            case "answer": return new int[] {number(3), number(1 + below(16)), 0, 0};
            case "changed": return new int[] {number(3), number(20), 0, 0};
            case "stage": return new int[] {number(8), 0, 0, 0};
            case "defer": return new int[] {number(4), handle(), number(6), anyValue()};
            case "answers":
            case "answersOneByOne":
            case "answeringRows":
            case "walk": return new int[] {number(3), 0, 0, 0};
            default: return new int[] {handle(), 0, 0, 0};
        }
    }

    /** Mostly one of the newest handles, which may still be of an entity; finish makes some untold. */
    private int handle() {
        if (below(8) == 0) {
            return below(96);
        }
        int newest = handles.size() - 1 - below(Math.min(handles.size(), 24));
        return below(40) == 0 ? ODD[below(ODD.length)] : handles.get(newest);
    }

    private int number(int bound) {
        return below(40) == 0 ? ODD[below(ODD.length)] : below(bound);
    }

    private int kindSet() {
        int mostlySmall = below(64) & below(64);
        return below(30) == 0 ? ODD[below(ODD.length)] : mostlySmall;
    }

    private int anyValue() {
        return below(3) == 0 ? ODD[below(ODD.length)] : below(1000) - 500;
    }

    private int below(int bound) {
        seed = seed * 6364136223846793005L + 1442695040888963407L;
        return (int) ((seed >>> 33) % bound);
    }
}
