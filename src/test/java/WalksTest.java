/** Promises 24 to 27. */
public final class WalksTest {
    public static void main(String[] args) {
        walkTellsHowMany();
        walkRefuses();
        nextTellsInOrder();
        deferCounts();
        deferRefuses();
        finishDoesInOrder();
        finishLeavesOut();
        finishMakes();
        finishMakesBothOrNeither();
        finishDoesTwenty();
        finishMakesWhereOthersEnded();
        finishRefuses();
        Check.over();
    }

    private static void walkTellsHowMany() {
        Archeloft x = withEntities(3);
        x.add(1, 0, 0);
        x.question(0, 1, 0);
        x.question(2, 0, 0);
        Check.due("walk(0)", x.walk(0), 2);
        x.finish();
        Check.due("walk(1)", x.walk(1), 0);
        Check.due("walk: next of none", x.next(), Archeloft.NONE);
        Check.due("walk: goes on behind its last answer", x.finish(), 0);
    }

    private static void walkRefuses() {
        Archeloft x = withEntities(1);
        x.question(0, 0, 0);
        for (int number : new int[] {-1, 1, Integer.MIN_VALUE, Integer.MAX_VALUE}) {
            Check.outOfBounds("walk(" + number + ")", () -> x.walk(number));
        }
        Check.illegalState("walk: refused ones begin none", x::next);
        x.walk(0);
        Check.outOfBounds("walk: no question, in a walk", () -> x.walk(1));
        Check.illegalState("walk: in a walk", () -> x.walk(0));
        Check.due("walk: the first one goes on", x.next(), 0);
        Check.illegalState("walk: in the same one", () -> x.walk(0));
        Check.due("walk: and has no more", x.next(), Archeloft.NONE);
    }

    private static void nextTellsInOrder() {
        Archeloft x = withEntities(4);
        Check.illegalState("next: no walk", x::next);
        x.add(0, 2, 0);
        x.end(1);
        x.make();
        x.question(0, 0, 0);
        x.walk(0);
        // row 0: 3 2 33, row 1: 0
        Check.due("next: first", x.next(), 3);
        x.defer(Archeloft.END, 2, 0, 0);
        Check.due("next: second, though its end waits", x.next(), 2);
        Check.due("next: third", x.next(), 33);
        x.set(0, 2, 5);
        Check.due("next: fourth", x.next(), 0);
        Check.due("next: all told", x.next(), Archeloft.NONE);
        Check.due("next: still all told", x.next(), Archeloft.NONE);
        x.finish();
        Check.illegalState("next: walk is over", x::next);
        x.walk(0);
        Check.due("next: from the first one again", x.next(), 3);
    }

    private static void deferCounts() {
        Archeloft x = withWalk(1);
        for (int i = 1; i <= 20; i++) {
            Check.due("defer: " + i, x.defer(i % 4, -i, 100 * i, 0), i);
        }
        Check.illegalState("defer: a 21st", () -> x.defer(Archeloft.MAKE, 0, 0, 0));
        Check.illegalArgument("defer: a 21st that is none", () -> x.defer(4, 0, 0, 0));
        Check.due("defer: nothing is done yet", x.entities(), 1);
        Check.due("defer: none can be done", x.finish(), 0);
        x.walk(0);
        Check.due("defer: none waits in a new walk", x.defer(Archeloft.END, 0, 0, 0), 1);
    }

    private static void deferRefuses() {
        Archeloft x = withWalk(1);
        for (int command : new int[] {-1, 4, Integer.MIN_VALUE, Integer.MAX_VALUE}) {
            Check.illegalArgument("defer: command " + command, () -> x.defer(command, 0, 0, 0));
        }
        Check.due("defer: refused does not wait", x.defer(Archeloft.ADD, 0, 0, 0), 1);
        x.finish();
        Check.illegalState("defer: no walk", () -> x.defer(Archeloft.ADD, 0, 1, 0));
        Check.illegalArgument("defer: no command and no walk", () -> x.defer(-1, 0, 1, 0));
    }

    private static void finishDoesInOrder() {
        Archeloft x = withEntities(4);
        x.adopt(2, 1);
        x.run();
        x.walk(x.question(0, 0, 0));
        x.defer(Archeloft.ADD, 0, 3, 30);
        x.defer(Archeloft.ADD, 3, 3, 33);
        x.defer(Archeloft.TAKE, 0, 3, 99);
        x.defer(Archeloft.ADD, 0, 3, 31);
        x.defer(Archeloft.END, 1, 99, 99);
        Check.due("finish: five, an end with a child counts once", x.finish(), 5);
        Check.due("finish: the walk is over", x.make(), 33);
        Check.due("finish: the last value added", x.value(0, 3), 31);
        Check.due("finish: order in the row", x.entityAt(1, 0), 3);
        Check.due("finish: end of the row", x.entityAt(1, 1), 0);
        Check.due("finish: marked with the tick of now", x.mark(3, 3), 1);
        Check.due("finish: ended with its parent", x.isThere(2), false);
        x.walk(0);
        Check.due("finish: nothing is done twice", x.finish(), 0);
    }

    private static void finishLeavesOut() {
        Archeloft x = withWalk(2);
        x.defer(Archeloft.ADD, 0, 6, 0);
        x.defer(Archeloft.ADD, 32, 0, 0);
        x.defer(Archeloft.TAKE, 0, -1, 0);
        x.defer(Archeloft.TAKE, 0, 0, 0);
        x.defer(Archeloft.TAKE, 5, 0, 0);
        x.defer(Archeloft.END, 5, 0, 0);
        x.defer(Archeloft.ADD, 0, 0, 40);
        x.defer(Archeloft.ADD, 0, 0, 41);
        x.defer(Archeloft.END, 1, 0, 0);
        x.defer(Archeloft.END, 1, 0, 0);
        x.defer(Archeloft.ADD, 1, 1, 0);
        Check.due("finish: two of eleven", x.finish(), 2);
        Check.due("finish: first value stays", x.value(0, 0), 40);
        Check.due("finish: one entity stays", x.entities(), 1);
        Check.due("finish: rows", x.rows(), 2);
    }

    private static void finishMakes() {
        Archeloft x = new Archeloft();
        x.walk(x.question(0, 0, 0));
        x.defer(Archeloft.MAKE, 99, 2, -7);
        x.defer(Archeloft.ADD, 0, 5, 8);
        x.defer(Archeloft.END, 0, 0, 0);
        x.defer(Archeloft.MAKE, -1, 2, -9);
        Check.due("finish: makes", x.finish(), 4);
        Check.due("finish: slot 0 again", x.value(32, 2), -9);
        Check.due("finish: a new one has just that kind", x.kinds(32), 4);
        Check.due("finish: it came by the row of the empty set", x.setOf(0), 0);
        Check.due("finish: into the row of its kind", x.setOf(1), 4);
        Check.due("finish: it lies there", x.entityAt(1, 0), 32);
        Check.due("finish: and not in the first one", x.size(0), 0);
    }

    private static void finishMakesBothOrNeither() {
        Archeloft x = new Archeloft();
        x.walk(x.question(0, 0, 0));
        x.defer(Archeloft.MAKE, 0, 6, 0);
        x.defer(Archeloft.MAKE, 0, -1, 0);
        Check.due("finish: no such kind", x.finish(), 0);
        Check.due("finish: no entity is made", x.entities(), 0);
        Check.due("finish: no row is begun", x.rows(), 0);
        Check.due("finish: no handle is used", x.make(), 0);

        Archeloft full = withWalk(31);
        full.defer(Archeloft.MAKE, 0, 0, 1);
        full.defer(Archeloft.MAKE, 0, 0, 2);
        Check.due("finish: one slot is free", full.finish(), 1);
        Check.due("finish: all slots are taken", full.entities(), 32);
        Check.due("finish: by the first one", full.value(31, 0), 1);
    }

    private static void finishDoesTwenty() {
        Archeloft x = withWalk(0);
        for (int i = 0; i < 20; i++) {
            Check.due("defer: one more", x.defer(Archeloft.MAKE, Archeloft.NONE, i % 6, i), i + 1);
        }
        Check.due("finish: twenty", x.finish(), 20);
        Check.due("finish: twenty entities", x.entities(), 20);
        Check.due("finish: the first one", x.value(0, 0), 0);
        Check.due("finish: the last one", x.value(19, 1), 19);
    }

    private static void finishMakesWhereOthersEnded() {
        Archeloft x = withWalk(32);
        x.defer(Archeloft.MAKE, 0, 1, 1);
        x.defer(Archeloft.END, 20, 0, 0);
        x.defer(Archeloft.MAKE, 0, 9, 2);
        x.defer(Archeloft.MAKE, 0, 1, 3);
        x.defer(Archeloft.MAKE, 0, 1, 4);
        Check.due("finish: one end, one make", x.finish(), 2);
        Check.due("finish: all slots are taken again", x.entities(), 32);
        Check.due("finish: the make behind the end", x.value(52, 1), 3);
    }

    private static void finishRefuses() {
        Archeloft x = withEntities(1);
        Check.illegalState("finish: no walk", x::finish);
        x.walk(x.question(0, 0, 0));
        x.finish();
        Check.illegalState("finish: twice", x::finish);
    }

    private static Archeloft withEntities(int count) {
        Archeloft x = new Archeloft();
        for (int i = 0; i < count; i++) {
            x.make();
        }
        return x;
    }

    private static Archeloft withWalk(int count) {
        Archeloft x = withEntities(count);
        x.walk(x.question(0, 0, 0));
        return x;
    }
}
