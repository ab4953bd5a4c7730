/** Promises 18 to 23. */
public final class QuestionsTest {
    private static final int[] NO_SETS = {-1, 64, Integer.MIN_VALUE, Integer.MAX_VALUE};
    private static final int[] NO_NUMBERS = {-1, 3, 8, Integer.MIN_VALUE, Integer.MAX_VALUE};

    public static void main(String[] args) {
        questionsAreNumbered();
        questionRefuses();
        answersOfEachSet();
        answersComeRowByRow();
        answeringRowsCountEmptyOnes();
        answeringRowsOfAllSets();
        allSlotsAnswer();
        changedIsLater();
        changedCountsEntities();
        allRefuseOtherNumbers();
        Check.over();
    }

    private static void questionsAreNumbered() {
        Archeloft x = new Archeloft();
        for (int number = 0; number < 8; number++) {
            Check.due("question " + number, x.question(number, 63, 0), number);
        }
        Check.illegalState("question: a ninth", () -> x.question(0, 0, 0));
        Check.illegalArgument("question: a ninth out of range", () -> x.question(0, 0, 64));
        Check.outOfBounds("question: no number 8", () -> x.answers(8));
    }

    private static void questionRefuses() {
        Archeloft x = new Archeloft();
        for (int set : NO_SETS) {
            Check.illegalArgument("question: all " + set, () -> x.question(set, 0, 0));
            Check.illegalArgument("question: none " + set, () -> x.question(0, set, 0));
            Check.illegalArgument("question: any " + set, () -> x.question(0, 0, set));
        }
        Check.due("question: refused changes nothing", x.question(63, 63, 63), 0);
        x.walk(0);
        Check.due("question: in a walk", x.question(0, 0, 0), 1);
    }

    private static void answersOfEachSet() {
        Archeloft x = new Archeloft();
        // slot s has the kinds of the set s, so every set of the kinds 0 to 4 is there once
        for (int slot = 0; slot < 32; slot++) {
            x.make();
            for (int kind = 0; kind < 5; kind++) {
                if ((slot & (1 << kind)) != 0) {
                    x.add(slot, kind, slot);
                }
            }
        }
        answersAre(x, 32, 0, 0, 0);
        answersAre(x, 8, 3, 0, 0);
        answersAre(x, 8, 0, 3, 0);
        answersAre(x, 24, 0, 0, 3);
        answersAre(x, 6, 1, 2, 12);
        answersAre(x, 0, 1, 1, 0);
        answersAre(x, 0, 0, 0, 32);
        answersAre(x, 0, 32, 0, 0);
    }

    private static void answersComeRowByRow() {
        Archeloft x = new Archeloft();
        for (int i = 0; i < 6; i++) {
            x.make();
        }
        x.add(4, 1, 0);
        x.add(0, 2, 0);
        x.add(2, 1, 0);
        x.question(0, 0, 0);
        x.question(2, 0, 0);
        x.question(4, 0, 0);
        // row 0: 5 1 3, row 1: 4 2, row 2: 0
        answersInOrder(x, 0, 5, 1, 3, 4, 2, 0);
        answersInOrder(x, 1, 4, 2);
        answersInOrder(x, 2, 0);
        x.end(4);
        answersInOrder(x, 0, 5, 1, 3, 2, 0);
        x.end(0);
        answersInOrder(x, 2);
    }

    private static void answeringRowsCountEmptyOnes() {
        Archeloft x = new Archeloft();
        x.question(0, 0, 0);
        x.question(1, 0, 0);
        x.question(0, 1, 6);
        Check.due("answeringRows: no rows", x.answeringRows(0), 0);
        int handle = x.make();
        x.add(handle, 0, 0);
        x.add(handle, 1, 0);
        x.take(handle, 0);
        x.end(handle);
        Check.due("answeringRows: all four", x.answeringRows(0), 4);
        Check.due("answeringRows: with kind 0", x.answeringRows(1), 2);
        Check.due("answeringRows: without kind 0, with 1 or 2", x.answeringRows(2), 1);
        Check.due("answeringRows: no answers", x.answers(0), 0);
    }

    private static void answeringRowsOfAllSets() {
        Archeloft x = new Archeloft();
        int handle = x.make();
        // each step of this walk through all sets changes one kind
        for (int step = 1; step < 64; step++) {
            int kind = Integer.numberOfTrailingZeros(step);
            if ((x.kinds(handle) & (1 << kind)) == 0) {
                x.add(handle, kind, 0);
            } else {
                x.take(handle, kind);
            }
        }
        Check.due("answeringRows: all", x.answeringRows(x.question(0, 0, 0)), 64);
        Check.due("answeringRows: with 0 and 5", x.answeringRows(x.question(33, 0, 0)), 16);
        Check.due("answeringRows: without 0 and 5", x.answeringRows(x.question(0, 33, 0)), 16);
        Check.due("answeringRows: with 0 or 5", x.answeringRows(x.question(0, 0, 33)), 48);
        Check.due("answeringRows: the empty set alone", x.answeringRows(x.question(0, 63, 0)), 1);
        Check.due("answeringRows: the full set alone", x.answeringRows(x.question(63, 0, 0)), 1);
        Check.due("answeringRows: none at all", x.answeringRows(x.question(1, 1, 0)), 0);
        Check.due("answeringRows: one of them has an answer", x.answers(0), 1);
    }

    private static void allSlotsAnswer() {
        Archeloft x = new Archeloft();
        x.question(0, 0, 0);
        x.question(0, 1, 0);
        Check.due("answers: of a new object", x.answers(0), 0);
        Check.due("answersOneByOne: of a new object", x.answersOneByOne(0), 0);
        Check.outOfBounds("answer: of a new object", () -> x.answer(0, 0));
        for (int slot = 0; slot < 32; slot++) {
            x.make();
        }
        x.add(31, 0, 0);
        Check.due("answers: all", x.answers(0), 32);
        Check.due("answersOneByOne: all", x.answersOneByOne(0), 32);
        Check.due("answer: the last one", x.answer(0, 31), 31);
        Check.outOfBounds("answer: behind it", () -> x.answer(0, 32));
        Check.due("answers: all but one", x.answers(1), 31);
        Check.due("answersOneByOne: all but one", x.answersOneByOne(1), 31);
        Check.outOfBounds("answer: behind them", () -> x.answer(1, 31));
    }

    private static void changedCountsEntities() {
        Archeloft x = new Archeloft();
        x.make();
        x.make();
        x.question(0, 0, 0);
        x.question(63, 0, 0);
        Check.due("changed: without components", x.changed(0, Integer.MIN_VALUE), 0);
        for (int kind = 0; kind < 6; kind++) {
            x.add(0, kind, 0);
            Check.due("changed: counted once", x.changed(0, -1), 1);
        }
        for (int kind = 0; kind < 6; kind++) {
            int before = x.tick();
            x.run();
            Check.due("changed: a tick alone changes nothing", x.changed(1, before), 0);
            x.set(0, kind, 0);
            Check.due("changed: kind " + kind + " alone", x.changed(1, before), 1);
        }
        Check.due("changed: some are older, one is not", x.changed(1, 5), 1);
        Check.due("changed: none is newer than now", x.changed(1, 6), 0);
    }

    private static void changedIsLater() {
        Archeloft x = new Archeloft();
        x.question(1, 0, 0);
        x.question(0, 0, 0);
        for (int i = 0; i < 4; i++) {
            x.make();
        }
        x.add(0, 0, 0);
        x.add(1, 0, 0);
        x.run();
        Check.due("changed: not later than 0", x.changed(0, 0), 0);
        Check.due("changed: later than -1", x.changed(0, -1), 2);
        Check.due("changed: of all kinds of answers", x.changed(1, -1), 2);
        x.add(1, 5, 0);
        x.add(2, 4, 0);
        Check.due("changed: a kind that is not asked for", x.changed(0, 0), 1);
        Check.due("changed: answers only", x.changed(1, 0), 2);
        x.set(0, 0, 0);
        Check.due("changed: set to the same", x.changed(0, 0), 2);
        Check.due("changed: not later than 1", x.changed(0, 1), 0);
        x.take(1, 5);
        Check.due("changed: a taken kind has no mark", x.changed(0, 0), 1);
        Check.due("changed: MIN", x.changed(1, Integer.MIN_VALUE), 3);
        Check.due("changed: MAX", x.changed(1, Integer.MAX_VALUE), 0);
    }

    private static void allRefuseOtherNumbers() {
        Archeloft x = new Archeloft();
        x.make();
        x.question(0, 0, 0);
        x.question(0, 0, 0);
        x.question(0, 0, 0);
        for (int number : NO_NUMBERS) {
            Check.outOfBounds("answers(" + number + ")", () -> x.answers(number));
            Check.outOfBounds("answersOneByOne(" + number + ")", () -> x.answersOneByOne(number));
            Check.outOfBounds("answer(" + number + ", 0)", () -> x.answer(number, 0));
            Check.outOfBounds("answer(2, " + number + ")", () -> x.answer(2, number));
            Check.outOfBounds("answeringRows(" + number + ")", () -> x.answeringRows(number));
            Check.outOfBounds("changed(" + number + ", 0)", () -> x.changed(number, 0));
        }
        Check.outOfBounds("answer(2, 1)", () -> x.answer(2, 1));
        Check.due("answer(2, 0)", x.answer(2, 0), 0);
    }

    private static void answersAre(Archeloft x, int due, int all, int none, int any) {
        int number = x.question(all, none, any);
        Check.due("answers of " + all + ", " + none + ", " + any, x.answers(number), due);
        Check.due("answersOneByOne of " + all + ", " + none + ", " + any, x.answersOneByOne(number), due);
    }

    private static void answersInOrder(Archeloft x, int question, int... handles) {
        Check.due("answers(" + question + ")", x.answers(question), handles.length);
        Check.due("answersOneByOne(" + question + ")", x.answersOneByOne(question), handles.length);
        for (int place = 0; place < handles.length; place++) {
            Check.due("answer(" + question + ", " + place + ")", x.answer(question, place), handles[place]);
        }
        Check.outOfBounds("answer behind the last one", () -> x.answer(question, handles.length));
    }
}
