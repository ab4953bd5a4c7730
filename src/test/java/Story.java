import java.util.ArrayList;
import java.util.List;
import java.util.function.IntSupplier;

/**
 * All that a store answers from now on, as one text: first what can be asked, then calls that bring out
 * what cannot (the walk and how far it is, the commands that wait, the next handles and numbers).
 * Two stores that tell the same story are in the same state.
 */
final class Story {
    /** What the callers may have called before, so that no store sees more than 512 calls. */
    static final int CALLS_BEFORE = 100;
    private static final int MOST_CALLS = 512;

    private final Archeloft x;
    private final StringBuilder text = new StringBuilder();
    private int calls = CALLS_BEFORE;
    private boolean thrown = false;

    private Story(Archeloft x) {
        this.x = x;
    }

    static String of(Archeloft x) {
        Story story = new Story(x);
        story.look();
        story.walkToItsEnd();
        story.look();
        story.useUp();
        Check.due("a story of at most 512 calls", story.calls <= MOST_CALLS, true);
        return story.text.toString();
    }

    /** What the two stories tell differently first. */
    static String difference(String one, String other) {
        String[] oneLines = one.split("\n");
        String[] otherLines = other.split("\n");
        for (int i = 0; i < oneLines.length && i < otherLines.length; i++) {
            if (!oneLines[i].equals(otherLines[i])) {
                return oneLines[i] + ", not " + otherLines[i];
            }
        }
        return oneLines.length == otherLines.length ? "none" : "one is longer";
    }

    private void look() {
        int tick = ask("tick", x::tick);
        ask("entities", x::entities);
        lookAt(handlesByRows());
        for (int number = 0; number < 8 && lookAtQuestion(number, tick); number++) {
            continue;
        }
        ask("stages", x::stages);
        for (int number = 0; number < 8 && stageIsThere(number); number++) {
            continue;
        }
    }

    private List<Integer> handlesByRows() {
        List<Integer> handles = new ArrayList<>();
        int rows = ask("rows", x::rows);
        for (int i = 0; i < rows; i++) {
            int row = i;
            ask("setOf " + row, () -> x.setOf(row));
            int size = ask("size " + row, () -> x.size(row));
            for (int j = 0; j < size; j++) {
                int place = j;
                handles.add(ask("entityAt " + row + " " + place, () -> x.entityAt(row, place)));
            }
        }
        return handles;
    }

    private void lookAt(List<Integer> handles) {
        for (int handle : handles) {
            ask("children " + handle, () -> x.children(handle));
            int kinds = ask("kinds " + handle, () -> x.kinds(handle));
            for (int i = 0; i < 6; i++) {
                int kind = i;
                if ((kinds & (1 << kind)) != 0) {
                    ask("value " + handle + " " + kind, () -> x.value(handle, kind));
                    ask("mark " + handle + " " + kind, () -> x.mark(handle, kind));
                }
            }
        }
    }

    private boolean lookAtQuestion(int number, int tick) {
        int answers = ask("answers " + number, () -> x.answers(number));
        if (thrown) {
            return false;
        }
        ask("answersOneByOne " + number, () -> x.answersOneByOne(number));
        ask("answeringRows " + number, () -> x.answeringRows(number));
        ask("changed " + number, () -> x.changed(number, tick - 1));
        if (answers > 0) {
            ask("answer " + number, () -> x.answer(number, answers - 1));
        }
        return true;
    }

    private boolean stageIsThere(int number) {
        ask("stage " + number, () -> x.stage(number));
        return !thrown;
    }

    private void walkToItsEnd() {
        for (int told = 0; told <= 32 && ask("next", x::next) != Archeloft.NONE && !thrown; told++) {
            continue;
        }
        ask("defer", () -> x.defer(Archeloft.END, Archeloft.NONE, 0, 0));
        ask("finish", x::finish);
    }

    private void useUp() {
        ask("make", x::make);
        for (int made = 1; made <= 32 && !thrown; made++) {
            ask("make", x::make);
        }
        ask("question", () -> x.question(63, 0, 0));
        ask("system", () -> x.system(63, 0));
        ask("run", x::run);
        ask("tick", x::tick);
        ask("walk", () -> x.walk(0));
    }

    private int ask(String call, IntSupplier made) {
        calls++;
        int answer = 0;
        thrown = false;
        text.append(call);
        try {
            answer = made.getAsInt();
            text.append(" = ").append(answer).append('\n');
        } catch (RuntimeException e) {
            thrown = true;
            text.append(" throws ").append(Check.nameOf(e)).append('\n');
        }
        return answer;
    }
}
