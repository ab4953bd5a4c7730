/** The sentences under 'Terms', each at its edges; what they have in common with a promise stands there, too. */
public final class TermsTest {
    private static final int CALLS = 512;
    private static final int SIGN = Integer.MIN_VALUE;

    public static void main(String[] args) {
        slotsAre0To31();
        handleCountsItsOwnSlot();
        handleGrowsThrough512Calls();
        lowestFreeSlot();
        handleOfAnEntityThere();
        oneComponentOfEachKind();
        valuesAreAnyInts();
        setsAreBits();
        rowOfTheEmptySet();
        endOfItsNewRow();
        lastOneTakesThePlace();
        lastOneItselfLeaves();
        rowsByFirstComing();
        emptyRowsKeepTheirNumbers();
        answersHaveAll();
        answersHaveNoneOfTheSecond();
        answersHaveSomeOfTheThird();
        answersByRowsAndPlaces();
        tickIs0AtFirst();
        markedWhenAdded();
        markedWhenSetToTheSame();
        marksStayOtherwise();
        childOfItsParent();
        goesWithItsParent();
        endsInOrder();
        walkOrNone();
        answersAsTheyAreWhenItBegins();
        commandsWait();
        commandsInTheirOrder();
        commandsLeftOut();
        barringSystems();
        lowestStageAboveAll();
        runTicksFirst();
        stagesThenNumbers();
        allKindsReadOrWritten();
        addedUpAsTheyAre();
        setToTheSameIsSet();
        sumsWrapAround();
        Check.over();
    }

    // "There are the slots 0 to 31. An entity has one of them"
    private static void slotsAre0To31() {
        Archeloft x = new Archeloft();
        for (int slot = 0; slot < 32; slot++) {
            Check.due("make", x.make(), slot);
        }
        Check.due("32 entities", x.entities(), 32);
        Check.illegalState("make: no 33rd", x::make);
        x.adopt(0, 15);
        x.adopt(31, 15);
        Check.due("slots 0 and 31", x.children(15), 1 | SIGN);
        Check.due("the last slot is used again", x.end(31) + x.make(), 1 + 63);
    }

    // "its handle is the slot plus 32 times how many entities had that slot before it"
    private static void handleCountsItsOwnSlot() {
        Archeloft x = withEntities(3);
        x.end(1);
        x.end(x.make());
        x.end(x.make());
        Check.due("the fourth of slot 1", x.make(), 1 + 3 * 32);
        x.end(2);
        Check.due("the second of slot 2", x.make(), 2 + 32);
        x.end(0);
        Check.due("the second of slot 0", x.make(), 32);
        Check.due("the first of slot 3", x.make(), 3);
        Check.due("family of 0, 1 and 2", x.adopt(32, 34) + x.adopt(97, 32), 2 * Archeloft.NONE);
        Check.due("they end together", x.end(34), 3);
        Check.due("each slot counts one more, 0", x.make(), 64);
        Check.due("each slot counts one more, 1", x.make(), 1 + 4 * 32);
        Check.due("each slot counts one more, 2", x.make(), 2 + 64);
    }

    // "An object is used for at most 512 calls"
    private static void handleGrowsThrough512Calls() {
        Archeloft x = new Archeloft();
        for (int before = 0; before < CALLS / 2; before++) {
            Check.due("make", x.make(), 32 * before);
            if (before < CALLS / 2 - 1) {
                x.end(32 * before);
            }
        }
        Check.due("the 512th call", x.isThere(32 * (CALLS / 2 - 1)), true);
    }

    // "A new entity gets the lowest slot that is free."
    private static void lowestFreeSlot() {
        Archeloft x = withEntities(32);
        x.end(30);
        x.end(0);
        x.end(31);
        x.end(7);
        Check.due("lowest first", x.make(), 32);
        Check.due("then 7", x.make(), 39);
        x.end(32);
        Check.due("lowest again", x.make(), 64);
        Check.due("then 30", x.make(), 62);
        Check.due("then 31", x.make(), 63);
        Check.illegalState("then none", x::make);
    }

    // "A handle is of an entity if that is there now."
    private static void handleOfAnEntityThere() {
        Archeloft x = new Archeloft();
        Check.due("before it is made", x.isThere(0), false);
        x.make();
        Check.due("once it is made", x.isThere(0), true);
        Check.due("the next one of its slot", x.isThere(32), false);
        Check.due("its slot, below 0", x.isThere(-32), false);
        Check.due("its slot, with the sign", x.isThere(SIGN), false);
        x.end(0);
        Check.due("once it has ended", x.isThere(0), false);
        Check.due("its slot is free", x.isThere(32), false);
        x.make();
        Check.due("another one in its slot", x.isThere(0), false);
        Check.due("that one", x.isThere(32), true);
        Check.due("the third one", x.isThere(64), false);
        Check.due("slot 31, below 0", x.isThere(Archeloft.NONE), false);
    }

    // "There are the kinds 0 to 5; an entity has at most one component of each kind"
    private static void oneComponentOfEachKind() {
        Archeloft x = withEntities(2);
        for (int kind = 0; kind < 6; kind++) {
            x.add(0, kind, kind);
        }
        Check.due("all kinds", x.kinds(0), 63);
        for (int kind = 0; kind < 6; kind++) {
            int had = kind;
            Check.illegalState("a second one", () -> x.add(0, had, 9));
            Check.due("the first one stays", x.value(0, kind), kind);
        }
        Check.due("another entity has none of them", x.kinds(1), 0);
        Check.due("but may have one", x.add(1, 3, 9), 8);
        Check.due("of its own", x.value(0, 3), 3);
    }

    // "with a value, an int"
    private static void valuesAreAnyInts() {
        Archeloft x = withEntities(1);
        int before = 77;
        x.add(0, 5, before);
        for (int value : new int[] {Archeloft.NONE, 0, SIGN, Integer.MAX_VALUE, 1}) {
            Check.due("set", x.set(0, 5, value), before);
            Check.due("value", x.value(0, 5), value);
            Check.due("take", x.take(0, 5), value);
            Check.due("add", x.add(0, 5, value), 32);
            Check.due("value added", x.value(0, 5), value);
            before = value;
        }
    }

    // "Sets of kinds are told as bits, bit k for the kind k."
    private static void setsAreBits() {
        Archeloft x = withEntities(6);
        for (int kind = 0; kind < 6; kind++) {
            int bit = 1 << kind;
            Check.due("add", x.add(kind, kind, 0), bit);
            Check.due("kinds", x.kinds(kind), bit);
            Check.due("setOf", x.setOf(1 + kind), bit);
            Check.due("answers", x.answers(x.question(bit, 0, 0)), 1);
            x.system(0, bit);
        }
        Check.due("a value of each", x.run(), 6);
    }

    // "A new entity comes to the end of the row of the empty set."
    private static void rowOfTheEmptySet() {
        Archeloft x = withEntities(3);
        x.add(1, 0, 0);
        rowIs(x, 0, 0, 2);
        x.end(0);
        Check.due("a low slot", x.make(), 32);
        rowIs(x, 0, 2, 32);
        x.make();
        rowIs(x, 0, 2, 32, 3);
        Check.due("the row of the empty set", x.setOf(0), 0);
    }

    // "When a component is added or taken, the entity comes to the end of its new row."
    private static void endOfItsNewRow() {
        Archeloft x = withEntities(4);
        x.add(2, 1, 0);
        x.add(3, 1, 0);
        x.add(0, 1, 0);
        rowIs(x, 1, 2, 3, 0);
        x.take(3, 1);
        rowIs(x, 0, 1, 3);
        x.add(0, 2, 0);
        x.add(2, 2, 0);
        rowIs(x, 2, 0, 2);
        x.take(0, 2);
        x.add(3, 1, 0);
        x.take(2, 2);
        rowIs(x, 1, 0, 3, 2);
    }

    // "Where an entity leaves a row, the last one of that row takes its place"
    private static void lastOneTakesThePlace() {
        Archeloft x = withEntities(7);
        x.end(0);
        rowIs(x, 0, 6, 1, 2, 3, 4, 5);
        x.add(2, 0, 0);
        rowIs(x, 0, 6, 1, 5, 3, 4);
        x.add(3, 0, 0);
        rowIs(x, 0, 6, 1, 5, 4);
        x.add(6, 0, 0);
        rowIs(x, 1, 2, 3, 6);
        x.take(2, 0);
        rowIs(x, 1, 6, 3);
        rowIs(x, 0, 4, 1, 5, 2);
    }

    // "if it is another one"
    private static void lastOneItselfLeaves() {
        Archeloft x = withEntities(3);
        x.end(2);
        rowIs(x, 0, 0, 1);
        x.add(1, 0, 0);
        rowIs(x, 0, 0);
        x.add(0, 0, 0);
        rowIs(x, 0);
        x.take(0, 0);
        rowIs(x, 1, 1);
        x.end(1);
        rowIs(x, 1);
        rowIs(x, 0, 0);
    }

    // "Rows are numbered from 0 in the order in which an entity came into them first"
    private static void rowsByFirstComing() {
        Archeloft x = withEntities(2);
        x.add(1, 5, 0);
        x.add(0, 0, 0);
        x.add(1, 0, 0);
        x.take(1, 5);
        x.add(0, 5, 0);
        x.take(0, 0);
        x.add(0, 3, 0);
        int[] due = {0, 32, 1, 33, 40};
        Check.due("rows", x.rows(), due.length);
        for (int row = 0; row < due.length; row++) {
            Check.due("setOf", x.setOf(row), due[row]);
        }
    }

    // "those that are empty again keep their numbers"
    private static void emptyRowsKeepTheirNumbers() {
        Archeloft x = withEntities(1);
        x.add(0, 4, 0);
        x.add(0, 2, 0);
        x.end(0);
        Check.due("three empty ones", x.rows(), 3);
        rowIs(x, 0);
        rowIs(x, 1);
        rowIs(x, 2);
        x.make();
        x.add(32, 2, 0);
        Check.due("a fourth one", x.rows(), 4);
        Check.due("behind the empty ones", x.setOf(3), 4);
        x.add(32, 4, 0);
        Check.due("none anew", x.rows(), 4);
        rowIs(x, 2, 32);
    }

    // "an entity answers it if it has all kinds of the first set"
    private static void answersHaveAll() {
        Archeloft x = withSets();
        answersAre(x, x.question(0b101, 0, 0), 5, 7);
        answersAre(x, x.question(0b111, 0, 0), 7);
        answersAre(x, x.question(0b1111, 0, 0));
        answersAre(x, x.question(0, 0, 0), 0, 1, 2, 3, 4, 5, 6, 7);
    }

    // "none of the second one"
    private static void answersHaveNoneOfTheSecond() {
        Archeloft x = withSets();
        answersAre(x, x.question(0, 0b101, 0), 0, 2);
        answersAre(x, x.question(0, 63, 0), 0);
        answersAre(x, x.question(1, 0b100, 0), 1, 3);
        answersAre(x, x.question(1, 1, 0));
    }

    // "and, unless the third one is empty, some of the third one"
    private static void answersHaveSomeOfTheThird() {
        Archeloft x = withSets();
        answersAre(x, x.question(0, 0, 0b101), 1, 3, 4, 5, 6, 7);
        answersAre(x, x.question(0, 0, 63), 1, 2, 3, 4, 5, 6, 7);
        answersAre(x, x.question(0, 0, 0b1000));
        answersAre(x, x.question(0b010, 0b001, 0b110), 2, 6);
        answersAre(x, x.question(0, 0b111, 0b111));
        answersAre(x, x.question(0b111, 0, 0b111), 7);
    }

    // "The answers are told row by row, by the numbers of rows, and in each row by places."
    private static void answersByRowsAndPlaces() {
        Archeloft x = withEntities(6);
        x.add(5, 1, 0);
        x.add(3, 0, 0);
        x.add(1, 1, 0);
        x.add(0, 0, 0);
        // rows: 2 4, 5 1, 3 0
        int all = x.question(0, 0, 0);
        answersInOrder(x, all, 2, 4, 5, 1, 3, 0);
        int some = x.question(0, 0, 3);
        answersInOrder(x, some, 5, 1, 3, 0);
        x.add(5, 0, 0);
        answersInOrder(x, some, 1, 3, 0, 5);
        x.take(5, 0);
        answersInOrder(x, some, 1, 5, 3, 0);
    }

    // "The tick is 0 at first."
    private static void tickIs0AtFirst() {
        Archeloft x = withEntities(1);
        x.add(0, 0, 5);
        Check.due("tick", x.tick(), 0);
        Check.due("mark", x.mark(0, 0), 0);
    }

    // "A component is marked with the tick of now when it is added"
    private static void markedWhenAdded() {
        Archeloft x = withEntities(2);
        x.add(0, 0, 5);
        x.run();
        x.run();
        x.add(1, 0, 5);
        x.add(0, 1, 5);
        Check.due("mark: of tick 0", x.mark(0, 0), 0);
        Check.due("mark: another entity's", x.mark(1, 0), 2);
        Check.due("mark: another kind's", x.mark(0, 1), 2);
        x.run();
        x.take(0, 0);
        x.add(0, 0, 5);
        Check.due("mark: added again", x.mark(0, 0), 3);
        x.run();
        x.end(0);
        x.add(x.make(), 0, 5);
        Check.due("mark: of another one in the slot", x.mark(32, 0), 4);
        Check.illegalState("mark: but not of the other kind", () -> x.mark(32, 1));
    }

    // "and when its value is set, be it to the same"
    private static void markedWhenSetToTheSame() {
        Archeloft x = withEntities(1);
        x.add(0, 0, 5);
        x.add(0, 1, 5);
        x.run();
        x.set(0, 0, 5);
        Check.due("mark: set to the same", x.mark(0, 0), 1);
        Check.due("mark: not set", x.mark(0, 1), 0);
        x.walk(x.question(0, 0, 0));
        x.set(0, 1, 5);
        Check.due("mark: set in a walk", x.mark(0, 1), 1);
    }

    // nothing else marks a component
    private static void marksStayOtherwise() {
        Archeloft x = withEntities(2);
        x.add(0, 0, 5);
        x.run();
        x.value(0, 0);
        x.mark(0, 0);
        x.add(0, 1, 0);
        x.take(0, 1);
        x.adopt(0, 1);
        x.system(1, 2);
        x.run();
        Check.illegalState("refused", () -> x.add(0, 0, 6));
        Check.due("mark: as it was", x.mark(0, 0), 0);
    }

    // "An entity has a parent or none; it is a child of that."
    private static void childOfItsParent() {
        Archeloft x = withEntities(3);
        x.adopt(2, 0);
        Check.due("of its parent", x.children(0), 4);
        Check.due("of no other one", x.children(1), 0);
        Check.due("a parent of its own", x.adopt(2, 1), 0);
        Check.due("one parent at most", x.children(0), 0);
        Check.due("the new one", x.children(1), 4);
        Check.due("no parent is possible again", x.adopt(2, Archeloft.NONE), 1);
        Check.due("no child any more", x.children(1), 0);
        x.adopt(2, 1);
        x.end(2);
        Check.due("an ended one is no child", x.children(1), 0);
        Check.due("another one in its slot", x.make(), 34);
        Check.due("is no child", x.children(1), 0);
        Check.due("and has no parent", x.adopt(34, 0), Archeloft.NONE);
    }

    // "An entity goes with its parent: when one ends .."
    private static void goesWithItsParent() {
        Archeloft x = withEntities(6);
        x.adopt(1, 0);
        x.adopt(2, 1);
        x.adopt(3, 2);
        x.adopt(4, 1);
        x.adopt(4, Archeloft.NONE);
        Check.due("a parent does not go with its child", x.end(2), 2);
        Check.due("the parent stays", x.isThere(1), true);
        Check.due("the child is gone", x.isThere(3), false);
        Check.due("the others", x.end(0), 2);
        Check.due("who was let go stays", x.isThere(4), true);
        Check.due("and who never had a parent", x.isThere(5), true);
        Check.due("two are left", x.entities(), 2);
    }

    // "it ends first, then its children by rising slots, each of them right behind itself followed by its own .."
    private static void endsInOrder() {
        Archeloft first = withEntities(4);
        first.adopt(0, 1);
        first.end(1);
        // the child first would leave 3 2
        rowIs(first, 0, 2, 3);

        Archeloft rising = withEntities(5);
        rising.adopt(0, 2);
        rising.adopt(1, 2);
        rising.end(2);
        // 2, 1, 0 would leave 4 3
        rowIs(rising, 0, 3, 4);

        Archeloft adoptedLater = withEntities(5);
        adoptedLater.adopt(1, 2);
        adoptedLater.adopt(0, 2);
        adoptedLater.end(2);
        rowIs(adoptedLater, 0, 3, 4);

        Archeloft bySlots = withEntities(5);
        bySlots.end(0);
        bySlots.make();
        bySlots.adopt(32, 4);
        bySlots.adopt(1, 4);
        bySlots.end(4);
        // by rising handles, 4, 1, 32 would leave 2 3
        rowIs(bySlots, 0, 3, 2);

        Archeloft deep = withEntities(7);
        deep.adopt(1, 0);
        deep.adopt(5, 0);
        deep.adopt(2, 1);
        deep.end(0);
        // 0, 1, 2, 5; all children before their own would leave 6 4 3
        rowIs(deep, 0, 6, 3, 4);
    }

    // "There is a walk or none."
    private static void walkOrNone() {
        Archeloft x = withEntities(1);
        x.question(0, 0, 0);
        x.question(63, 0, 0);
        Check.illegalState("none at first", x::finish);
        Check.due("a walk without answers is one", x.walk(1), 0);
        Check.illegalState("a second one", () -> x.walk(0));
        Check.due("next", x.next(), Archeloft.NONE);
        Check.illegalState("it goes on behind its last answer", x::make);
        x.finish();
        Check.illegalState("none again", x::next);
        Check.due("a new one", x.walk(0), 1);
    }

    // "A walk has the answers of a question as they are when it begins, and tells them one by one."
    private static void answersAsTheyAreWhenItBegins() {
        Archeloft x = withEntities(32);
        x.add(0, 0, 0);
        x.question(0, 0, 0);
        Check.due("walk", x.walk(0), 32);
        int[] told = new int[32];
        int seen = 0;
        for (int i = 0; i < 32; i++) {
            told[i] = x.next();
            seen |= 1 << told[i];
            if (i % 2 == 0) {
                x.defer(Archeloft.END, told[i], 0, 0);
            }
        }
        Check.due("each one is told once", seen, -1);
        Check.due("none is told twice", x.next(), Archeloft.NONE);
        for (int place = 0; place < 32; place++) {
            Check.due("as the answers are", told[place], x.answer(0, place));
        }
        Check.due("finish", x.finish(), 16);
        Check.due("the next walk has those that are left", x.walk(0), 16);
    }

    // "commands wait, and are done in their order when the walk is over"
    private static void commandsWait() {
        Archeloft x = withEntities(2);
        x.add(0, 1, 10);
        x.walk(x.question(0, 0, 0));
        x.defer(Archeloft.ADD, 0, 0, 5);
        x.defer(Archeloft.TAKE, 0, 1, 0);
        x.defer(Archeloft.END, 1, 0, 0);
        x.defer(Archeloft.MAKE, 0, 3, 5);
        x.next();
        x.next();
        x.next();
        Check.due("nothing is added or taken", x.kinds(0), 2);
        Check.due("none is ended", x.isThere(1), true);
        Check.due("none is made", x.isThere(2), false);
        Check.due("no row is begun", x.rows(), 2);
        Check.due("finish", x.finish(), 4);
        Check.due("added and taken", x.kinds(0), 1);
        Check.due("ended", x.isThere(1), false);
        Check.due("made", x.value(33, 3), 5);
        Check.due("and over", x.make(), 2);
    }

    // "in their order": each command needs what those before it have done
    private static void commandsInTheirOrder() {
        Archeloft x = withEntities(1);
        x.walk(x.question(0, 0, 0));
        x.defer(Archeloft.ADD, 0, 0, 1);
        x.defer(Archeloft.TAKE, 0, 0, 0);
        x.defer(Archeloft.ADD, 0, 0, 2);
        x.defer(Archeloft.END, 0, 0, 0);
        x.defer(Archeloft.MAKE, 0, 1, 3);
        x.defer(Archeloft.ADD, 32, 2, 4);
        x.defer(Archeloft.MAKE, 0, 4, 6);
        Check.due("all can be done in this order alone", x.finish(), 7);
        Check.due("the new one", x.kinds(32), 6);
        Check.due("its first component", x.value(32, 1), 3);
        Check.due("the newest one", x.kinds(1), 16);
        int[] due = {0, 1, 2, 6, 16};
        Check.due("rows", x.rows(), due.length);
        for (int row = 0; row < due.length; row++) {
            Check.due("setOf", x.setOf(row), due[row]);
        }
    }

    // "A command that cannot be done then, because it would throw an exception if it was called, is left out."
    private static void commandsLeftOut() {
        Archeloft x = withEntities(2);
        x.adopt(1, 0);
        x.walk(x.question(0, 0, 0));
        x.defer(Archeloft.TAKE, 0, 0, 0);
        x.defer(Archeloft.END, 0, 0, 0);
        x.defer(Archeloft.END, 1, 0, 0);
        x.defer(Archeloft.ADD, 1, 0, 0);
        x.defer(Archeloft.ADD, 32, 0, 0);
        x.defer(Archeloft.MAKE, 0, 0, 7);
        x.defer(Archeloft.ADD, 32, 0, 8);
        Check.due("one end and one make", x.finish(), 2);
        Check.due("could be done once, but not then", x.isThere(1), false);
        Check.due("could be done later, but not then", x.value(32, 0), 7);
    }

    // "Two systems bar each other if one of them writes a kind that the other one reads or writes."
    private static void barringSystems() {
        bars("both read", 1, 0, 1, 0, false);
        bars("the first writes, the second reads", 0, 1, 1, 0, true);
        bars("the first reads, the second writes", 1, 0, 0, 1, true);
        bars("both write", 0, 1, 0, 1, true);
        bars("other kinds", 0b000111, 0b000011, 0b001100, 0b111000, false);
        bars("one kind of many, written and read", 0b000011, 0b100000, 0b111000, 0b000100, true);
        bars("one kind of many, read and written", 0b000111, 0, 0b111000, 0b111100, true);
        bars("one kind of many, written twice", 0, 0b000111, 0, 0b111100, true);
        bars("the first does nothing", 0, 0, 63, 63, false);
        bars("the second does nothing", 63, 63, 0, 0, false);
    }

    // "the lowest one that is above the stages of all systems with lower numbers that it bars"
    private static void lowestStageAboveAll() {
        Archeloft x = new Archeloft();
        Check.due("a system does not bar itself", x.system(1, 1), 0);
        Check.due("above one", x.system(1, 0), 1);
        Check.due("above one, not above all", x.system(0, 1), 2);
        Check.due("bars none", x.system(2, 4), 0);
        Check.due("above 0, though 2 is there", x.system(4, 8), 1);
        Check.due("above the highest of some", x.system(5, 0), 3);
        Check.due("stages", x.stages(), 4);
        Check.due("above the one that is not the newest", x.system(0, 2), 1);
        Check.due("later ones move none", x.stage(3), 0);
        Check.due("above all", x.system(63, 63), 4);
        Check.due("stages, one more", x.stages(), 5);

        Archeloft gaps = new Archeloft();
        gaps.system(0, 1);
        gaps.system(1, 2);
        gaps.system(2, 4);
        Check.due("above 2 and 0, not in the gap", gaps.system(0, 0b101), 3);
        Check.due("the lowest one", gaps.system(0b101000, 0b010000), 0);
    }

    // "A run: the tick grows by 1. Then the systems run"
    private static void runTicksFirst() {
        Archeloft x = withEntities(1);
        x.add(0, 0, 5);
        x.add(0, 1, 5);
        x.system(2, 1);
        x.run();
        Check.due("tick", x.tick(), 1);
        Check.due("written: marked with the new tick", x.mark(0, 0), 1);
        Check.due("read: not marked", x.mark(0, 1), 0);
        for (int tick = 2; tick < 500; tick++) {
            x.run();
        }
        Check.due("tick of many runs", x.tick(), 499);
        Check.due("mark of many runs", x.mark(0, 0), 499);
    }

    // "by stages, those of one stage by their numbers"
    private static void stagesThenNumbers() {
        Archeloft x = withEntities(1);
        for (int kind = 0; kind < 4; kind++) {
            x.add(0, kind, 1);
        }
        x.system(1, 2);
        x.system(2, 4);
        x.system(4, 8);
        x.system(8, 1);
        Check.due("four values", x.run(), 4);
        Check.due("kind 1 is 1 + (1 + 1)", x.value(0, 1), 3);
        Check.due("kind 2 is 1 + (3 + 1)", x.value(0, 2), 5);
        Check.due("kind 3 is 1 + (5 + 1)", x.value(0, 3), 7);
        Check.due("kind 0 is 1 + (7 + 1)", x.value(0, 0), 9);
    }

    // "for each entity that has all kinds that the system reads or writes"
    private static void allKindsReadOrWritten() {
        Archeloft x = withSets();
        x.system(0b001, 0b010);
        Check.due("both kinds: 3 and 7", x.run(), 2);
        Check.due("3 has both", x.value(3, 1), 1);
        Check.due("7 has both", x.value(7, 1), 1);
        Check.due("2 lacks what is read", x.value(2, 1), 0);
        x.system(0, 0b110);
        Check.due("2 more of 6 and of 7", x.run(), 2 + 4);
        Check.due("2 lacks some of what is written", x.value(2, 1), 0);
        x.system(0b111, 0);
        x.system(0, 0);
        Check.due("none is written", x.run(), 6);
        x.system(0, 0b1000);
        Check.due("none has that", x.run(), 6);
    }

    // "the values of all kinds that it reads are added up as they are, and 1, and that sum is added .."
    private static void addedUpAsTheyAre() {
        Archeloft x = withEntities(2);
        x.add(0, 0, 100);
        x.add(0, 1, 20);
        x.add(0, 2, 3);
        x.add(1, 0, 1);
        x.add(1, 1, 1);
        x.add(1, 2, 1);
        x.system(0b011, 0b111);
        Check.due("six values", x.run(), 6);
        Check.due("100 + 121", x.value(0, 0), 221);
        Check.due("20 + 121", x.value(0, 1), 141);
        Check.due("3 + 121", x.value(0, 2), 124);
        Check.due("each entity by itself", x.value(1, 2), 4);

        Archeloft none = withEntities(1);
        none.add(0, 0, 41);
        none.system(0, 1);
        none.run();
        Check.due("reads nothing: 1", none.value(0, 0), 42);
    }

    // "when its value is set, be it to the same": by a run, too
    private static void setToTheSameIsSet() {
        Archeloft x = withEntities(1);
        x.add(0, 0, -1);
        x.add(0, 1, 7);
        x.system(1, 2);
        Check.due("one value is set", x.run(), 1);
        Check.due("to the same", x.value(0, 1), 7);
        Check.due("and marked", x.mark(0, 1), 1);
        Check.due("and changed", x.changed(x.question(0, 0, 0), 0), 1);
    }

    // "Sums wrap around as ints do."
    private static void sumsWrapAround() {
        wraps("in the 1", Integer.MAX_VALUE, 0, 0, SIGN);
        wraps("among what is read", Integer.MAX_VALUE, Integer.MAX_VALUE, 0, -1);
        wraps("where it is written", 0, 0, Integer.MAX_VALUE, SIGN);
        wraps("below", SIGN, -2, 0, Integer.MAX_VALUE);
        wraps("below, where it is written", -1, -1, SIGN, Integer.MAX_VALUE);
        wraps("to nothing", SIGN, SIGN, -1, 0);
    }

    private static void wraps(String where, int read, int alsoRead, int written, int due) {
        Archeloft x = withEntities(1);
        x.add(0, 0, read);
        x.add(0, 1, alsoRead);
        x.add(0, 2, written);
        x.system(3, 4);
        x.run();
        Check.due("wraps around " + where, x.value(0, 2), due);
    }

    private static void bars(String what, int reads, int writes, int otherReads, int otherWrites, boolean due) {
        Archeloft x = new Archeloft();
        x.system(reads, writes);
        Check.due("bars: " + what, x.system(otherReads, otherWrites), due ? 1 : 0);
        Archeloft other = new Archeloft();
        other.system(otherReads, otherWrites);
        Check.due("bars, each other: " + what, other.system(reads, writes), due ? 1 : 0);
    }

    private static Archeloft withEntities(int count) {
        Archeloft x = new Archeloft();
        for (int i = 0; i < count; i++) {
            x.make();
        }
        return x;
    }

    /** The entity s has the kinds of the set s, for the sets of the kinds 0 to 2, with the values 0. */
    private static Archeloft withSets() {
        Archeloft x = withEntities(8);
        for (int set = 0; set < 8; set++) {
            for (int kind = 0; kind < 3; kind++) {
                if ((set & (1 << kind)) != 0) {
                    x.add(set, kind, 0);
                }
            }
        }
        return x;
    }

    private static void rowIs(Archeloft x, int row, int... handles) {
        Check.due("size of row " + row, x.size(row), handles.length);
        for (int place = 0; place < handles.length; place++) {
            Check.due("row " + row + ", place " + place, x.entityAt(row, place), handles[place]);
        }
    }

    /** The answers by rising handles, in whatever order they are told. */
    private static void answersAre(Archeloft x, int question, int... handles) {
        Check.due("answers", x.answers(question), handles.length);
        Check.due("answersOneByOne", x.answersOneByOne(question), handles.length);
        int due = 0;
        int got = 0;
        for (int place = 0; place < handles.length; place++) {
            due |= 1 << handles[place];
            got |= 1 << x.answer(question, place);
        }
        Check.due("who answers", got, due);
    }

    private static void answersInOrder(Archeloft x, int question, int... handles) {
        Check.due("answers", x.answers(question), handles.length);
        for (int place = 0; place < handles.length; place++) {
            Check.due("answer at place " + place, x.answer(question, place), handles[place]);
        }
    }
}
