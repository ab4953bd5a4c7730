import java.util.ArrayList;
import java.util.Comparator;
import java.util.List;
import java.util.NoSuchElementException;
import java.util.TreeMap;

/**
 * The document told a second time, in another way: each entity carries all that is known of it, its
 * row and place among it, and every answer is looked for among all entities that there have ever been.
 */
final class Model {
    private static final class Being {
        int slot;
        int handle;
        boolean alive = true;
        Being parent;
        int row;
        int place;
        final TreeMap<Integer, Integer> values = new TreeMap<>();
        final TreeMap<Integer, Integer> marks = new TreeMap<>();

        int set() {
            int set = 0;
            for (int kind : values.keySet()) {
                set += (int) Math.pow(2, kind);
            }
            return set;
        }

        boolean goesWith(Being other) {
            return this == other || (parent != null && parent.goesWith(other));
        }
    }

    private final List<Being> ever = new ArrayList<>();
    private final List<Integer> rowSets = new ArrayList<>();
    private final List<int[]> questions = new ArrayList<>();
    private final List<int[]> systems = new ArrayList<>();
    private final List<int[]> waiting = new ArrayList<>();
    private List<Integer> toTell = null;
    private int tick = 0;

    long call(String name, int a, int b, int c, int d) {
        switch (name) {
            case "make": return make();
            case "end": return end(a);
            case "adopt": return adopt(a, b);
            case "entities": return alive().size();
            case "isThere": return found(a) != null ? 1 : 0;
            case "children": return children(a);
            case "add": return add(a, b, c);
            case "take": return take(a, b);
            case "set": return set(a, b, c);
            case "value": return owner(a, b).values.get(b);
            case "mark": return owner(a, b).marks.get(b);
            case "kinds": return being(a).set();
            case "rows": return rowSets.size();
            case "setOf": return rowSets.get(index(a, rowSets.size()));
            case "size": return inRow(index(a, rowSets.size())).size();
            case "entityAt": return entityAt(a, b);
            case "question": return question(a, b, c);
            case "answers": return answers(a).size();
            case "answersOneByOne": return answers(a).size();
            case "answer": return answer(a, b);
            case "answeringRows": return answeringRows(a);
            case "changed": return changed(a, b);
            case "walk": return walk(a);
            case "next": return next();
            case "defer": return defer(a, b, c, d);
            case "finish": return finish();
            case "system": return system(a, b);
            case "stage": return stage(index(a, systems.size()));
            case "stages": return stages();
            case "run": return run();
            case "tick": return tick;
            default: throw new UnsupportedOperationException(name);
        }
    }

    private int make() {
        need(toTell == null);
        for (int slot = 0; slot < 32; slot++) {
            boolean free = true;
            int before = 0;
            for (Being being : ever) {
                if (being.slot == slot) {
                    before++;
                    free &= !being.alive;
                }
            }
            if (free) {
                Being being = new Being();
                being.slot = slot;
                being.handle = slot + 32 * before;
                come(being);
                ever.add(being);
                return being.handle;
            }
        }
        throw new IllegalStateException();
    }

    private int end(int handle) {
        Being being = being(handle);
        need(toTell == null);
        return endWithChildren(being);
    }

    private int endWithChildren(Being being) {
        leave(being);
        being.alive = false;
        int ended = 1;
        for (int slot = 0; slot < 32; slot++) {
            for (Being child : alive()) {
                if (child.slot == slot && child.parent == being) {
                    ended += endWithChildren(child);
                }
            }
        }
        return ended;
    }

    private int adopt(int handle, int parent) {
        Being child = being(handle);
        Being newParent = parent == -1 ? null : being(parent);
        if (newParent != null && newParent.goesWith(child)) {
            throw new IllegalArgumentException();
        }
        need(toTell == null);
        int before = child.parent == null ? -1 : child.parent.handle;
        child.parent = newParent;
        return before;
    }

    private int children(int handle) {
        Being parent = being(handle);
        int set = 0;
        for (Being child : alive()) {
            if (child.parent == parent) {
                set |= 1 << child.slot;
            }
        }
        return set;
    }

    private int add(int handle, int kind, int value) {
        Being being = being(handle);
        needKind(kind);
        need(!being.values.containsKey(kind) && toTell == null);
        leave(being);
        being.values.put(kind, value);
        being.marks.put(kind, tick);
        come(being);
        return being.set();
    }

    private int take(int handle, int kind) {
        Being being = owner(handle, kind);
        need(toTell == null);
        leave(being);
        int value = being.values.remove(kind);
        being.marks.remove(kind);
        come(being);
        return value;
    }

    private int set(int handle, int kind, int value) {
        Being being = owner(handle, kind);
        being.marks.put(kind, tick);
        return being.values.put(kind, value);
    }

    private int entityAt(int row, int place) {
        List<Being> inRow = inRow(index(row, rowSets.size()));
        return inRow.get(index(place, inRow.size())).handle;
    }

    private int question(int all, int none, int any) {
        needSet(all);
        needSet(none);
        needSet(any);
        need(questions.size() < 8);
        questions.add(new int[] {all, none, any});
        return questions.size() - 1;
    }

    private int answer(int question, int place) {
        List<Being> answers = answers(question);
        return answers.get(index(place, answers.size())).handle;
    }

    private int answeringRows(int question) {
        int[] asked = questions.get(index(question, questions.size()));
        int count = 0;
        for (int set : rowSets) {
            if (answers(set, asked)) {
                count++;
            }
        }
        return count;
    }

    private int changed(int question, int than) {
        int count = 0;
        for (Being being : answers(question)) {
            boolean later = false;
            for (int mark : being.marks.values()) {
                later |= mark > than;
            }
            count += later ? 1 : 0;
        }
        return count;
    }

    private int walk(int question) {
        List<Being> answers = answers(question);
        need(toTell == null);
        toTell = new ArrayList<>();
        for (Being being : answers) {
            toTell.add(being.handle);
        }
        return answers.size();
    }

    private int next() {
        need(toTell != null);
        return toTell.isEmpty() ? -1 : toTell.remove(0);
    }

    private int defer(int command, int handle, int kind, int value) {
        if (command < 0 || command > 3) {
            throw new IllegalArgumentException();
        }
        need(toTell != null && waiting.size() < 20);
        waiting.add(new int[] {command, handle, kind, value});
        return waiting.size();
    }

    private int finish() {
        need(toTell != null);
        toTell = null;
        int done = 0;
        while (!waiting.isEmpty()) {
            int[] command = waiting.remove(0);
            done += done(command[0], command[1], command[2], command[3]);
        }
        return done;
    }

    /** Asks ahead whether the command can be done; no exception is thrown here. */
    private int done(int command, int handle, int kind, int value) {
        Being being = found(handle);
        boolean isKind = kind >= 0 && kind < 6;
        if (command == 3 && isKind && alive().size() < 32) {
            add(make(), kind, value);
        } else if (command == 2 && being != null) {
            end(handle);
        } else if (command == 1 && being != null && isKind && being.values.containsKey(kind)) {
            take(handle, kind);
        } else if (command == 0 && being != null && isKind && !being.values.containsKey(kind)) {
            add(handle, kind, value);
        } else {
            return 0;
        }
        return 1;
    }

    private int system(int reads, int writes) {
        needSet(reads);
        needSet(writes);
        need(systems.size() < 8);
        systems.add(new int[] {reads, writes});
        return stage(systems.size() - 1);
    }

    private int stage(int number) {
        int stage = 0;
        for (int lower = 0; lower < number; lower++) {
            if (bar(systems.get(lower), systems.get(number))) {
                stage = Math.max(stage, 1 + stage(lower));
            }
        }
        return stage;
    }

    private static boolean bar(int[] one, int[] other) {
        for (int kind = 0; kind < 6; kind++) {
            boolean oneWrites = has(one[1], kind);
            boolean otherWrites = has(other[1], kind);
            if (oneWrites && (has(other[0], kind) || otherWrites) || otherWrites && has(one[0], kind)) {
                return true;
            }
        }
        return false;
    }

    private int stages() {
        int stages = 0;
        for (int number = 0; number < systems.size(); number++) {
            stages = Math.max(stages, stage(number) + 1);
        }
        return stages;
    }

    private int run() {
        need(toTell == null);
        tick++;
        int count = 0;
        for (int stage = 0; stage < 8; stage++) {
            for (int number = 0; number < systems.size(); number++) {
                if (stage(number) == stage) {
                    count += runOne(systems.get(number));
                }
            }
        }
        return count;
    }

    private int runOne(int[] system) {
        int count = 0;
        for (Being being : alive()) {
            if ((system[0] | system[1] | being.set()) == being.set()) {
                long sum = 1;
                for (int kind = 0; kind < 6; kind++) {
                    sum += has(system[0], kind) ? being.values.get(kind) : 0;
                }
                for (int kind = 0; kind < 6; kind++) {
                    if (has(system[1], kind)) {
                        being.values.put(kind, (int) (being.values.get(kind) + sum));
                        being.marks.put(kind, tick);
                        count++;
                    }
                }
            }
        }
        return count;
    }

    private void come(Being being) {
        if (!rowSets.contains(being.set())) {
            rowSets.add(being.set());
        }
        being.row = rowSets.indexOf(being.set());
        being.place = 0;
        for (Being other : alive()) {
            if (other != being && other.row == being.row) {
                being.place++;
            }
        }
    }

    private void leave(Being being) {
        Being last = being;
        for (Being other : alive()) {
            if (other.row == being.row && other.place > last.place) {
                last = other;
            }
        }
        last.place = being.place;
        being.row = -1;
    }

    private List<Being> alive() {
        List<Being> alive = new ArrayList<>();
        for (Being being : ever) {
            if (being.alive) {
                alive.add(being);
            }
        }
        return alive;
    }

    private List<Being> inRow(int row) {
        List<Being> inRow = alive();
        inRow.removeIf(being -> being.row != row);
        inRow.sort(Comparator.comparingInt(being -> being.place));
        return inRow;
    }

    private List<Being> answers(int question) {
        int[] asked = questions.get(index(question, questions.size()));
        List<Being> answers = alive();
        answers.removeIf(being -> !answers(being.set(), asked));
        answers.sort(Comparator.comparingInt(being -> 100 * being.row + being.place));
        return answers;
    }

    private static boolean answers(int set, int[] asked) {
        boolean some = asked[2] == 0;
        for (int kind = 0; kind < 6; kind++) {
            if (has(asked[0], kind) && !has(set, kind) || has(asked[1], kind) && has(set, kind)) {
                return false;
            }
            some |= has(asked[2], kind) && has(set, kind);
        }
        return some;
    }

    private static boolean has(int set, int kind) {
        return (set >> kind) % 2 == 1;
    }

    private Being found(int handle) {
        for (Being being : alive()) {
            if (being.handle == handle) {
                return being;
            }
        }
        return null;
    }

    private Being being(int handle) {
        Being being = found(handle);
        if (being == null) {
            throw new NoSuchElementException();
        }
        return being;
    }

    private Being owner(int handle, int kind) {
        Being being = being(handle);
        needKind(kind);
        need(being.values.containsKey(kind));
        return being;
    }

    private static int index(int number, int bound) {
        if (number < 0 || number >= bound) {
            throw new IndexOutOfBoundsException();
        }
        return number;
    }

    private static void need(boolean holds) {
        if (!holds) {
            throw new IllegalStateException();
        }
    }

    private static void needKind(int kind) {
        if (kind < 0 || kind > 5) {
            throw new IllegalArgumentException();
        }
    }

    private static void needSet(int set) {
        if (set < 0 || set > 63) {
            throw new IllegalArgumentException();
        }
    }
}
