/** "If several exceptions apply to a call, the one that its comment lists first is thrown." */
public final class FirstReasonsTest {
    private static final String ELEMENT = "NoSuchElementException";
    private static final String ARGUMENT = "IllegalArgumentException";
    private static final String STATE = "IllegalStateException";
    private static final String INDEX = "IndexOutOfBoundsException";
    private static final int NO_KIND = 6;
    private static final int NO_COMMAND = 4;

    public static void main(String[] args) {
        ofMake();
        ofEnd();
        ofAdopt();
        ofAdd();
        ofTake();
        ofSetValueAndMark();
        ofQuestion();
        ofWalk();
        ofDefer();
        ofSystem();
        Check.over();
    }

    /** Both reasons have the same exception; that nothing changes must hold for both at once, too. */
    private static void ofMake() {
        Check.refused(State.FULL_WALK, "make(), full and in a walk", STATE, x -> x.make());
    }

    private static void ofEnd() {
        for (int handle : State.NO_HANDLES) {
            Check.refused(State.WALK, "end(" + handle + ")", ELEMENT, x -> x.end(handle));
        }
    }

    private static void ofAdopt() {
        for (int handle : State.NO_HANDLES) {
            // the same handle twice: of no entity, and it would go with itself
            Check.refused(State.PLAIN, "adopt(" + handle + ", itself)", ELEMENT, x -> x.adopt(handle, handle));
            Check.refused(State.WALK, "adopt(" + handle + ", itself)", ELEMENT, x -> x.adopt(handle, handle));
            Check.refused(State.WALK, "adopt(" + handle + ", 1)", ELEMENT, x -> x.adopt(handle, 1));
            Check.refused(State.WALK, "adopt(" + handle + ", NONE)", ELEMENT, x -> x.adopt(handle, Archeloft.NONE));
            if (handle != Archeloft.NONE) {
                Check.refused(State.WALK, "adopt(2, " + handle + ")", ELEMENT, x -> x.adopt(2, handle));
            }
        }
        Check.refused(State.WALK, "adopt(32, 32)", ARGUMENT, x -> x.adopt(32, 32));
        Check.refused(State.WALK, "adopt(1, 2)", ARGUMENT, x -> x.adopt(1, 2));
        Check.refused(State.WALK, "adopt(1, 3)", ARGUMENT, x -> x.adopt(1, 3));
    }

    private static void ofAdd() {
        for (int handle : State.NO_HANDLES) {
            Check.refused(State.PLAIN, "add(" + handle + ", no kind)", ELEMENT, x -> x.add(handle, NO_KIND, 0));
            Check.refused(State.WALK, "add(" + handle + ", no kind)", ELEMENT, x -> x.add(handle, NO_KIND, 0));
            Check.refused(State.WALK, "add(" + handle + ", 0)", ELEMENT, x -> x.add(handle, 0, 0));
        }
        for (int kind : State.NO_KINDS) {
            Check.refused(State.WALK, "add(1, " + kind + ")", ARGUMENT, x -> x.add(1, kind, 0));
        }
        Check.refused(State.WALK, "add(1, 0), has it, in a walk", STATE, x -> x.add(1, 0, 0));
    }

    private static void ofTake() {
        for (int handle : State.NO_HANDLES) {
            Check.refused(State.PLAIN, "take(" + handle + ", no kind)", ELEMENT, x -> x.take(handle, NO_KIND));
            Check.refused(State.WALK, "take(" + handle + ", no kind)", ELEMENT, x -> x.take(handle, NO_KIND));
            Check.refused(State.WALK, "take(" + handle + ", 0)", ELEMENT, x -> x.take(handle, 0));
        }
        for (int kind : State.NO_KINDS) {
            Check.refused(State.WALK, "take(1, " + kind + ")", ARGUMENT, x -> x.take(1, kind));
        }
        Check.refused(State.WALK, "take(1, 1), lacks it, in a walk", STATE, x -> x.take(1, 1));
    }

    private static void ofSetValueAndMark() {
        for (int handle : State.NO_HANDLES) {
            Check.refused(State.PLAIN, "set(" + handle + ", no kind)", ELEMENT, x -> x.set(handle, NO_KIND, 0));
            Check.refused(State.WALK, "set(" + handle + ", no kind)", ELEMENT, x -> x.set(handle, NO_KIND, 0));
            Check.refused(State.PLAIN, "value(" + handle + ", no kind)", ELEMENT, x -> x.value(handle, NO_KIND));
            Check.refused(State.PLAIN, "mark(" + handle + ", no kind)", ELEMENT, x -> x.mark(handle, NO_KIND));
        }
        for (int kind : State.NO_KINDS) {
            // 32 has no kinds at all, so the last reason would apply, too
            Check.refused(State.PLAIN, "set(32, " + kind + ")", ARGUMENT, x -> x.set(32, kind, 0));
            Check.refused(State.PLAIN, "value(32, " + kind + ")", ARGUMENT, x -> x.value(32, kind));
            Check.refused(State.PLAIN, "mark(32, " + kind + ")", ARGUMENT, x -> x.mark(32, kind));
            Check.refused(State.PLAIN, "take(32, " + kind + ")", ARGUMENT, x -> x.take(32, kind));
        }
    }

    private static void ofQuestion() {
        for (int set : State.NO_SETS) {
            Check.refused(State.EIGHT_QUESTIONS, "question(" + set + ", 0, 0)", ARGUMENT, x -> x.question(set, 0, 0));
            Check.refused(State.EIGHT_QUESTIONS, "question(0, " + set + ", 0)", ARGUMENT, x -> x.question(0, set, 0));
            Check.refused(State.EIGHT_QUESTIONS, "question(0, 0, " + set + ")", ARGUMENT, x -> x.question(0, 0, set));
        }
    }

    private static void ofWalk() {
        for (int number : new int[] {-1, 3, 8, Integer.MIN_VALUE, Integer.MAX_VALUE}) {
            Check.refused(State.WALK, "walk(" + number + ")", INDEX, x -> x.walk(number));
        }
    }

    private static void ofDefer() {
        for (int command : new int[] {-1, NO_COMMAND, Integer.MIN_VALUE, Integer.MAX_VALUE}) {
            Check.refused(State.PLAIN, "defer(" + command + ")", ARGUMENT, x -> x.defer(command, 1, 1, 1));
            Check.refused(State.TWENTY_COMMANDS, "defer(" + command + ")", ARGUMENT, x -> x.defer(command, 1, 1, 1));
        }
    }

    private static void ofSystem() {
        for (int set : State.NO_SETS) {
            Check.refused(State.EIGHT_SYSTEMS, "system(" + set + ", 0)", ARGUMENT, x -> x.system(set, 0));
            Check.refused(State.EIGHT_SYSTEMS, "system(0, " + set + ")", ARGUMENT, x -> x.system(0, set));
        }
    }
}
