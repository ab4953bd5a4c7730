/** Promises 8 to 13. */
public final class ComponentsTest {
    private static final int[] NO_HANDLES = {-1, 0, 33, 64, Integer.MIN_VALUE, Integer.MAX_VALUE};
    private static final int[] NO_KINDS = {-1, 6, 32, Integer.MIN_VALUE, Integer.MAX_VALUE};
    private static final int HANDLE = 32;

    public static void main(String[] args) {
        addMovesAndTellsSet();
        addRefuses();
        takeMovesAndTellsValue();
        takeRefuses();
        setTellsValueBefore();
        setRefuses();
        valueIsOfItsKind();
        valueRefuses();
        markIsTheTickOfNow();
        markRefuses();
        kindsAreASet();
        Check.over();
    }

    private static void addMovesAndTellsSet() {
        Archeloft x = withEntity();
        int due = 0;
        for (int kind = 5; kind >= 0; kind--) {
            due |= 1 << kind;
            Check.due("add: kind " + kind, x.add(HANDLE, kind, -kind), due);
        }
        Check.due("add: rows", x.rows(), 7);
        Check.due("add: it lies in the last row", x.entityAt(6, 0), HANDLE);
        Check.due("add: it has left the row before", x.size(5), 0);
        Check.due("add: first value stays", x.value(HANDLE, 5), -5);
        x.take(HANDLE, 3);
        x.add(HANDLE, 3, Integer.MIN_VALUE);
        Check.due("add: the new value", x.value(HANDLE, 3), Integer.MIN_VALUE);
    }

    private static void addRefuses() {
        Archeloft x = withEntity();
        for (int handle : NO_HANDLES) {
            Check.noSuchElement("add(" + handle + ", -1, 0)", () -> x.add(handle, -1, 0));
        }
        for (int kind : NO_KINDS) {
            Check.illegalArgument("add: kind " + kind, () -> x.add(HANDLE, kind, 0));
        }
        x.add(HANDLE, 4, 9);
        Check.illegalState("add: has that kind", () -> x.add(HANDLE, 4, 8));
        Check.due("add: refused keeps the value", x.value(HANDLE, 4), 9);
        x.walk(x.question(0, 0, 0));
        Check.noSuchElement("add: no entity, in a walk", () -> x.add(0, 9, 0));
        Check.illegalArgument("add: no kind, in a walk", () -> x.add(HANDLE, 9, 0));
        Check.illegalState("add: in a walk", () -> x.add(HANDLE, 5, 0));
        Check.due("add: refused keeps the kinds", x.kinds(HANDLE), 16);
    }

    private static void takeMovesAndTellsValue() {
        Archeloft x = withEntity();
        x.add(HANDLE, 0, 11);
        x.add(HANDLE, 5, 55);
        Check.due("take(5)", x.take(HANDLE, 5), 55);
        Check.due("take: kinds", x.kinds(HANDLE), 1);
        Check.due("take: its row", x.entityAt(1, 0), HANDLE);
        Check.due("take: the other value stays", x.value(HANDLE, 0), 11);
        Check.due("take(0)", x.take(HANDLE, 0), 11);
        Check.due("take: row of the empty set", x.entityAt(0, 0), HANDLE);
        Check.due("take: entities()", x.entities(), 1);
    }

    private static void takeRefuses() {
        Archeloft x = withEntity();
        x.add(HANDLE, 1, 1);
        for (int handle : NO_HANDLES) {
            Check.noSuchElement("take(" + handle + ", 7)", () -> x.take(handle, 7));
        }
        for (int kind : NO_KINDS) {
            Check.illegalArgument("take: kind " + kind, () -> x.take(HANDLE, kind));
        }
        Check.illegalState("take: does not have it", () -> x.take(HANDLE, 0));
        x.walk(x.question(0, 0, 0));
        Check.illegalArgument("take: no kind, in a walk", () -> x.take(HANDLE, 6));
        Check.illegalState("take: in a walk", () -> x.take(HANDLE, 1));
        Check.due("take: refused changes nothing", x.kinds(HANDLE), 2);
    }

    private static void setTellsValueBefore() {
        Archeloft x = withEntity();
        x.add(HANDLE, 2, 20);
        x.add(HANDLE, 3, 30);
        Check.due("set: before", x.set(HANDLE, 2, Integer.MAX_VALUE), 20);
        Check.due("set: again", x.set(HANDLE, 2, -1), Integer.MAX_VALUE);
        Check.due("set: value", x.value(HANDLE, 2), -1);
        Check.due("set: other kind", x.value(HANDLE, 3), 30);
        x.walk(x.question(0, 0, 0));
        Check.due("set: in a walk", x.set(HANDLE, 3, 31), 30);
        Check.due("set: value in a walk", x.value(HANDLE, 3), 31);
    }

    private static void setRefuses() {
        Archeloft x = withEntity();
        x.add(HANDLE, 0, 1);
        for (int handle : NO_HANDLES) {
            Check.noSuchElement("set(" + handle + ", 6, 0)", () -> x.set(handle, 6, 0));
        }
        for (int kind : NO_KINDS) {
            Check.illegalArgument("set: kind " + kind, () -> x.set(HANDLE, kind, 0));
        }
        Check.illegalState("set: does not have it", () -> x.set(HANDLE, 5, 0));
        x.take(HANDLE, 0);
        Check.illegalState("set: has it no more", () -> x.set(HANDLE, 0, 0));
    }

    private static void valueIsOfItsKind() {
        Archeloft x = withEntity();
        int other = x.make();
        for (int kind = 0; kind < 6; kind++) {
            x.add(HANDLE, kind, 100 + kind);
            x.add(other, kind, 200 + kind);
        }
        for (int kind = 0; kind < 6; kind++) {
            Check.due("value: kind " + kind, x.value(HANDLE, kind), 100 + kind);
            Check.due("value: other, kind " + kind, x.value(other, kind), 200 + kind);
        }
    }

    private static void valueRefuses() {
        Archeloft x = withEntity();
        for (int handle : NO_HANDLES) {
            Check.noSuchElement("value(" + handle + ", 6)", () -> x.value(handle, 6));
        }
        for (int kind : NO_KINDS) {
            Check.illegalArgument("value: kind " + kind, () -> x.value(HANDLE, kind));
        }
        Check.illegalState("value: does not have it", () -> x.value(HANDLE, 0));
    }

    private static void markIsTheTickOfNow() {
        Archeloft x = withEntity();
        x.add(HANDLE, 0, 7);
        Check.due("mark: at tick 0", x.mark(HANDLE, 0), 0);
        x.run();
        x.add(HANDLE, 1, 7);
        Check.due("mark: added at tick 1", x.mark(HANDLE, 1), 1);
        Check.due("mark: the other stays", x.mark(HANDLE, 0), 0);
        x.run();
        x.set(HANDLE, 0, 7);
        Check.due("mark: set to the same", x.mark(HANDLE, 0), 2);
        x.run();
        x.take(HANDLE, 0);
        x.add(HANDLE, 0, 7);
        Check.due("mark: added again", x.mark(HANDLE, 0), 3);
        Check.due("mark: moves with it", x.mark(HANDLE, 1), 1);
    }

    private static void markRefuses() {
        Archeloft x = withEntity();
        for (int handle : NO_HANDLES) {
            Check.noSuchElement("mark(" + handle + ", 6)", () -> x.mark(handle, 6));
        }
        for (int kind : NO_KINDS) {
            Check.illegalArgument("mark: kind " + kind, () -> x.mark(HANDLE, kind));
        }
        Check.illegalState("mark: does not have it", () -> x.mark(HANDLE, 0));
    }

    private static void kindsAreASet() {
        Archeloft x = withEntity();
        Check.due("kinds: none", x.kinds(HANDLE), 0);
        x.add(HANDLE, 5, 0);
        x.add(HANDLE, 0, 0);
        Check.due("kinds: 0 and 5", x.kinds(HANDLE), 33);
        for (int handle : NO_HANDLES) {
            Check.noSuchElement("kinds(" + handle + ")", () -> x.kinds(handle));
        }
    }

    /** The second entity of its slot, so that old handles are at hand. */
    private static Archeloft withEntity() {
        Archeloft x = new Archeloft();
        x.end(x.make());
        Check.due("make()", x.make(), HANDLE);
        return x;
    }
}
