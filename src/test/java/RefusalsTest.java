/**
 * Each reason for which a call is refused, by itself, at its edges; "A call that throws an exception
 * changes nothing."
 */
public final class RefusalsTest {
    private static final String ELEMENT = "NoSuchElementException";
    private static final String ARGUMENT = "IllegalArgumentException";
    private static final String STATE = "IllegalStateException";
    private static final String INDEX = "IndexOutOfBoundsException";
    private static final int[] FAR = {-1, -32, 64, Integer.MIN_VALUE, Integer.MAX_VALUE};

    public static void main(String[] args) {
        ofMake();
        ofEnd();
        ofAdopt();
        ofChildrenAndKinds();
        ofAdd();
        ofTake();
        ofSet();
        ofValueAndMark();
        ofRows();
        ofQuestion();
        ofAnswers();
        ofWalk();
        ofNextAndFinish();
        ofDefer();
        ofSystem();
        ofStage();
        ofRun();
        Check.over();
    }

    private static void ofMake() {
        Check.refused(State.FULL, "make()", STATE, x -> x.make());
        Check.refused(State.WALK, "make()", STATE, x -> x.make());
    }

    private static void ofEnd() {
        for (int handle : State.NO_HANDLES) {
            Check.refused(State.PLAIN, "end(" + handle + ")", ELEMENT, x -> x.end(handle));
        }
        Check.refused(State.NEW, "end(0)", ELEMENT, x -> x.end(0));
        Check.refused(State.WALK, "end(32)", STATE, x -> x.end(32));
        Check.refused(State.WALK, "end(1), with children", STATE, x -> x.end(1));
    }

    private static void ofAdopt() {
        for (int handle : State.NO_HANDLES) {
            Check.refused(State.PLAIN, "adopt(" + handle + ", 1)", ELEMENT, x -> x.adopt(handle, 1));
            Check.refused(State.PLAIN, "adopt(" + handle + ", NONE)", ELEMENT, x -> x.adopt(handle, Archeloft.NONE));
            if (handle != Archeloft.NONE) {
                Check.refused(State.PLAIN, "adopt(2, " + handle + ")", ELEMENT, x -> x.adopt(2, handle));
            }
        }
        Check.refused(State.PLAIN, "adopt(32, 32)", ARGUMENT, x -> x.adopt(32, 32));
        Check.refused(State.PLAIN, "adopt(2, 2), with a parent", ARGUMENT, x -> x.adopt(2, 2));
        Check.refused(State.PLAIN, "adopt(1, 2), its child", ARGUMENT, x -> x.adopt(1, 2));
        Check.refused(State.PLAIN, "adopt(1, 3), its child's child", ARGUMENT, x -> x.adopt(1, 3));
        Check.refused(State.WALK, "adopt(32, 1)", STATE, x -> x.adopt(32, 1));
        Check.refused(State.WALK, "adopt(2, NONE)", STATE, x -> x.adopt(2, Archeloft.NONE));
        Check.refused(State.WALK, "adopt(2, 1), as it is", STATE, x -> x.adopt(2, 1));
    }

    private static void ofChildrenAndKinds() {
        for (int handle : State.NO_HANDLES) {
            Check.refused(State.PLAIN, "children(" + handle + ")", ELEMENT, x -> x.children(handle));
            Check.refused(State.PLAIN, "kinds(" + handle + ")", ELEMENT, x -> x.kinds(handle));
        }
    }

    private static void ofAdd() {
        for (int handle : State.NO_HANDLES) {
            Check.refused(State.PLAIN, "add(" + handle + ", 1, 5)", ELEMENT, x -> x.add(handle, 1, 5));
        }
        for (int kind : State.NO_KINDS) {
            Check.refused(State.PLAIN, "add(32, " + kind + ", 5)", ARGUMENT, x -> x.add(32, kind, 5));
            Check.refused(State.PLAIN, "add(1, " + kind + ", 5)", ARGUMENT, x -> x.add(1, kind, 5));
        }
        Check.refused(State.PLAIN, "add(1, 0, 5)", STATE, x -> x.add(1, 0, 5));
        Check.refused(State.PLAIN, "add(1, 5, -10), as it is", STATE, x -> x.add(1, 5, -10));
        Check.refused(State.WALK, "add(1, 1, 5)", STATE, x -> x.add(1, 1, 5));
    }

    private static void ofTake() {
        for (int handle : State.NO_HANDLES) {
            Check.refused(State.PLAIN, "take(" + handle + ", 0)", ELEMENT, x -> x.take(handle, 0));
        }
        for (int kind : State.NO_KINDS) {
            Check.refused(State.PLAIN, "take(1, " + kind + ")", ARGUMENT, x -> x.take(1, kind));
        }
        Check.refused(State.PLAIN, "take(1, 4)", STATE, x -> x.take(1, 4));
        Check.refused(State.PLAIN, "take(32, 0)", STATE, x -> x.take(32, 0));
        Check.refused(State.WALK, "take(1, 0)", STATE, x -> x.take(1, 0));
    }

    private static void ofSet() {
        for (State state : new State[] {State.PLAIN, State.WALK}) {
            for (int handle : State.NO_HANDLES) {
                Check.refused(state, "set(" + handle + ", 0, 5)", ELEMENT, x -> x.set(handle, 0, 5));
            }
            for (int kind : State.NO_KINDS) {
                Check.refused(state, "set(1, " + kind + ", 5)", ARGUMENT, x -> x.set(1, kind, 5));
            }
            Check.refused(state, "set(1, 1, 5)", STATE, x -> x.set(1, 1, 5));
            Check.refused(state, "set(32, 5, 5)", STATE, x -> x.set(32, 5, 5));
        }
    }

    private static void ofValueAndMark() {
        for (int handle : State.NO_HANDLES) {
            Check.refused(State.PLAIN, "value(" + handle + ", 0)", ELEMENT, x -> x.value(handle, 0));
            Check.refused(State.PLAIN, "mark(" + handle + ", 0)", ELEMENT, x -> x.mark(handle, 0));
        }
        for (int kind : State.NO_KINDS) {
            Check.refused(State.PLAIN, "value(1, " + kind + ")", ARGUMENT, x -> x.value(1, kind));
            Check.refused(State.PLAIN, "mark(1, " + kind + ")", ARGUMENT, x -> x.mark(1, kind));
        }
        for (int kind = 1; kind <= 4; kind++) {
            int lacking = kind;
            Check.refused(State.PLAIN, "value(1, " + kind + ")", STATE, x -> x.value(1, lacking));
            Check.refused(State.PLAIN, "mark(1, " + kind + ")", STATE, x -> x.mark(1, lacking));
        }
    }

    /** PLAIN has the rows 0 (32, 3), 1 (2, which came into the row that 1 left) and 2 (1). */
    private static void ofRows() {
        Check.refused(State.NEW, "setOf(0)", INDEX, x -> x.setOf(0));
        Check.refused(State.NEW, "size(0)", INDEX, x -> x.size(0));
        Check.refused(State.NEW, "entityAt(0, 0)", INDEX, x -> x.entityAt(0, 0));
        Check.refused(State.PLAIN, "setOf(3)", INDEX, x -> x.setOf(3));
        Check.refused(State.PLAIN, "size(3)", INDEX, x -> x.size(3));
        Check.refused(State.PLAIN, "entityAt(3, 0)", INDEX, x -> x.entityAt(3, 0));
        Check.refused(State.PLAIN, "entityAt(0, 2)", INDEX, x -> x.entityAt(0, 2));
        Check.refused(State.PLAIN, "entityAt(2, 1)", INDEX, x -> x.entityAt(2, 1));
        Check.refused(State.FULL, "entityAt(0, 30)", INDEX, x -> x.entityAt(0, 30));
        for (int number : FAR) {
            Check.refused(State.PLAIN, "setOf(" + number + ")", INDEX, x -> x.setOf(number));
            Check.refused(State.PLAIN, "size(" + number + ")", INDEX, x -> x.size(number));
            Check.refused(State.PLAIN, "entityAt(" + number + ", 0)", INDEX, x -> x.entityAt(number, 0));
            Check.refused(State.PLAIN, "entityAt(0, " + number + ")", INDEX, x -> x.entityAt(0, number));
            Check.refused(State.PLAIN, "entityAt(3, " + number + ")", INDEX, x -> x.entityAt(3, number));
        }
    }

    private static void ofQuestion() {
        for (int set : State.NO_SETS) {
            Check.refused(State.PLAIN, "question(" + set + ", 0, 0)", ARGUMENT, x -> x.question(set, 0, 0));
            Check.refused(State.PLAIN, "question(0, " + set + ", 0)", ARGUMENT, x -> x.question(0, set, 0));
            Check.refused(State.PLAIN, "question(0, 0, " + set + ")", ARGUMENT, x -> x.question(0, 0, set));
            Check.refused(State.PLAIN, "question, all sets " + set, ARGUMENT, x -> x.question(set, set, set));
        }
        Check.refused(State.EIGHT_QUESTIONS, "question(0, 0, 0)", STATE, x -> x.question(0, 0, 0));
        Check.refused(State.EIGHT_QUESTIONS, "question(1, 0, 0), as one is", STATE, x -> x.question(1, 0, 0));
    }

    /** PLAIN has the questions 0 (four answers), 1 (two) and 2 (none). */
    private static void ofAnswers() {
        for (int number : new int[] {-1, 3, 8, Integer.MIN_VALUE, Integer.MAX_VALUE}) {
            Check.refused(State.PLAIN, "answers(" + number + ")", INDEX, x -> x.answers(number));
            Check.refused(State.PLAIN, "answersOneByOne(" + number + ")", INDEX, x -> x.answersOneByOne(number));
            Check.refused(State.PLAIN, "answer(" + number + ", 0)", INDEX, x -> x.answer(number, 0));
            Check.refused(State.PLAIN, "answeringRows(" + number + ")", INDEX, x -> x.answeringRows(number));
            Check.refused(State.PLAIN, "changed(" + number + ", 0)", INDEX, x -> x.changed(number, 0));
        }
        Check.refused(State.NEW, "answers(0)", INDEX, x -> x.answers(0));
        Check.refused(State.NEW, "answersOneByOne(0)", INDEX, x -> x.answersOneByOne(0));
        Check.refused(State.NEW, "answer(0, 0)", INDEX, x -> x.answer(0, 0));
        Check.refused(State.NEW, "answeringRows(0)", INDEX, x -> x.answeringRows(0));
        Check.refused(State.NEW, "changed(0, 0)", INDEX, x -> x.changed(0, 0));
        Check.refused(State.EIGHT_QUESTIONS, "answers(8)", INDEX, x -> x.answers(8));
        Check.refused(State.PLAIN, "answer(0, 4)", INDEX, x -> x.answer(0, 4));
        Check.refused(State.PLAIN, "answer(1, 2)", INDEX, x -> x.answer(1, 2));
        Check.refused(State.PLAIN, "answer(2, 0)", INDEX, x -> x.answer(2, 0));
        Check.refused(State.FULL, "answer(0, 32)", INDEX, x -> x.answer(0, 32));
        for (int place : FAR) {
            Check.refused(State.PLAIN, "answer(0, " + place + ")", INDEX, x -> x.answer(0, place));
        }
    }

    private static void ofWalk() {
        for (int number : new int[] {-1, 3, 8, Integer.MIN_VALUE, Integer.MAX_VALUE}) {
            Check.refused(State.PLAIN, "walk(" + number + ")", INDEX, x -> x.walk(number));
        }
        Check.refused(State.NEW, "walk(0)", INDEX, x -> x.walk(0));
        Check.refused(State.WALK, "walk(0), the same", STATE, x -> x.walk(0));
        Check.refused(State.WALK, "walk(1), another one", STATE, x -> x.walk(1));
        Check.refused(State.WALK, "walk(2), without answers", STATE, x -> x.walk(2));
    }

    private static void ofNextAndFinish() {
        Check.refused(State.NEW, "next()", STATE, x -> x.next());
        Check.refused(State.PLAIN, "next()", STATE, x -> x.next());
        Check.refused(State.NEW, "finish()", STATE, x -> x.finish());
        Check.refused(State.PLAIN, "finish()", STATE, x -> x.finish());
    }

    private static void ofDefer() {
        for (int command : new int[] {-1, 4, 5, 32, Integer.MIN_VALUE, Integer.MAX_VALUE}) {
            Check.refused(State.WALK, "defer(" + command + ", ..)", ARGUMENT, x -> x.defer(command, 1, 1, 1));
        }
        for (int command = Archeloft.ADD; command <= Archeloft.MAKE; command++) {
            int any = command;
            Check.refused(State.PLAIN, "defer(" + any + ", ..)", STATE, x -> x.defer(any, 1, 1, 1));
            Check.refused(State.TWENTY_COMMANDS, "defer(" + any + ", ..)", STATE, x -> x.defer(any, 1, 1, 1));
        }
    }

    private static void ofSystem() {
        for (int set : State.NO_SETS) {
            Check.refused(State.PLAIN, "system(" + set + ", 0)", ARGUMENT, x -> x.system(set, 0));
            Check.refused(State.PLAIN, "system(0, " + set + ")", ARGUMENT, x -> x.system(0, set));
            Check.refused(State.PLAIN, "system, both sets " + set, ARGUMENT, x -> x.system(set, set));
        }
        Check.refused(State.EIGHT_SYSTEMS, "system(0, 0)", STATE, x -> x.system(0, 0));
        Check.refused(State.EIGHT_SYSTEMS, "system(63, 63)", STATE, x -> x.system(63, 63));
    }

    private static void ofStage() {
        for (int number : new int[] {-1, 2, 8, Integer.MIN_VALUE, Integer.MAX_VALUE}) {
            Check.refused(State.PLAIN, "stage(" + number + ")", INDEX, x -> x.stage(number));
        }
        Check.refused(State.NEW, "stage(0)", INDEX, x -> x.stage(0));
        Check.refused(State.EIGHT_SYSTEMS, "stage(8)", INDEX, x -> x.stage(8));
    }

    private static void ofRun() {
        Check.refused(State.WALK, "run()", STATE, x -> x.run());
        Check.refused(State.FULL_WALK, "run()", STATE, x -> x.run());
    }
}
