/** Promises 1 to 7. */
public final class EntitiesTest {
    private static final int[] NO_HANDLES = {-1, -32, 1, 32, 33, 1 << 20, Integer.MIN_VALUE, Integer.MAX_VALUE};

    public static void main(String[] args) {
        newObject();
        makeTakesLowestSlot();
        makeRefuses();
        endAlone();
        endGoesByFamilies();
        endRefuses();
        adoptTellsParentBefore();
        adoptRefuses();
        adoptAlongTheLongestChain();
        entitiesAreCounted();
        isThereTellsOldHandles();
        childrenAreSlots();
        Check.over();
    }

    private static void newObject() {
        Archeloft x = new Archeloft();
        Check.due("new: entities()", x.entities(), 0);
        Check.due("new: rows()", x.rows(), 0);
        Check.due("new: stages()", x.stages(), 0);
        Check.due("new: tick()", x.tick(), 0);
        Check.due("new: isThere(0)", x.isThere(0), false);
        Check.outOfBounds("new: answers(0)", () -> x.answers(0));
        Check.outOfBounds("new: stage(0)", () -> x.stage(0));
        Check.illegalState("new: finish()", x::finish);
        Archeloft other = new Archeloft();
        other.make();
        Check.due("new: entities() beside another object", x.entities(), 0);
    }

    private static void makeTakesLowestSlot() {
        Archeloft x = withEntities(4);
        Check.due("make: kinds", x.kinds(3), 0);
        Check.due("make: parent", x.adopt(3, Archeloft.NONE), Archeloft.NONE);
        x.end(2);
        x.end(1);
        Check.due("make: first free slot", x.make(), 33);
        Check.due("make: second free slot", x.make(), 34);
        Check.due("make: behind all", x.make(), 4);
        x.end(33);
        Check.due("make: third entity of a slot", x.make(), 65);
    }

    private static void makeRefuses() {
        Archeloft x = withEntities(32);
        Check.due("make: 32 entities", x.entities(), 32);
        Check.illegalState("make: no slot free", x::make);
        Check.due("make: refused changes nothing", x.size(0), 32);
        x.end(31);
        Check.due("make: free again", x.make(), 63);

        Archeloft y = withWalk(1);
        Check.illegalState("make: in a walk", y::make);
        Check.due("make: refused in a walk", y.entities(), 1);
        y.finish();
        Check.due("make: behind the walk", y.make(), 1);
    }

    private static void endAlone() {
        Archeloft x = withEntities(3);
        x.add(1, 2, 77);
        Check.due("end(1)", x.end(1), 1);
        Check.due("end: entities()", x.entities(), 2);
        Check.due("end: row of its set is empty", x.size(1), 0);
        Check.due("end: new handle", x.make(), 33);
        Check.due("end: new one has no kinds", x.kinds(33), 0);
        Check.illegalState("end: new one has no old value", () -> x.value(33, 2));
    }

    private static void endGoesByFamilies() {
        // 6 has 2 and 4, 2 has 0, 0 has 8; other orders than 6, 2, 0, 8, 4 leave another row behind
        Archeloft x = withEntities(10);
        x.adopt(4, 6);
        x.adopt(2, 6);
        x.adopt(0, 2);
        x.adopt(8, 0);
        Check.due("end: with children", x.end(6), 5);
        Check.due("end: who stays", x.entities(), 5);
        Check.due("end: a child", x.isThere(4), false);
        Check.due("end: a child's child", x.isThere(8), false);
        rowIs("end: order of the ends", x, 0, 7, 1, 9, 3, 5);

        Archeloft chain = withEntities(32);
        for (int slot = 1; slot < 32; slot++) {
            chain.adopt(slot, slot - 1);
        }
        Check.due("end: a chain of 32", chain.end(0), 32);
        Check.due("end: nobody is left", chain.entities(), 0);
        Check.due("end: no parent is left", chain.make(), 32);
        Check.due("end: no child is left", chain.children(32), 0);

        Archeloft wide = withEntities(32);
        for (int slot = 0; slot < 31; slot++) {
            wide.adopt(slot, 31);
        }
        Check.due("end: 31 children", wide.end(31), 32);
    }

    private static void endRefuses() {
        Archeloft x = withEntities(1);
        for (int handle : NO_HANDLES) {
            Check.noSuchElement("end(" + handle + ")", () -> x.end(handle));
        }
        Archeloft y = withWalk(2);
        Check.noSuchElement("end: no entity, in a walk", () -> y.end(2));
        Check.illegalState("end: in a walk", () -> y.end(1));
        Check.due("end: refused changes nothing", y.isThere(1), true);
    }

    private static void adoptTellsParentBefore() {
        Archeloft x = withEntities(4);
        x.end(1);
        x.make();
        Check.due("adopt(0, 33)", x.adopt(0, 33), Archeloft.NONE);
        Check.due("adopt(0, 2)", x.adopt(0, 2), 33);
        Check.due("adopt: same again", x.adopt(0, 2), 2);
        Check.due("adopt: old parent has no child", x.children(33), 0);
        Check.due("adopt(0, NONE)", x.adopt(0, Archeloft.NONE), 2);
        Check.due("adopt: none before", x.adopt(0, Archeloft.NONE), Archeloft.NONE);
        Check.due("adopt: freed one stays", x.end(2) + x.entities(), 4);
    }

    private static void adoptRefuses() {
        Archeloft x = withEntities(4);
        x.adopt(1, 0);
        x.adopt(2, 1);
        Check.illegalArgument("adopt: itself", () -> x.adopt(3, 3));
        Check.illegalArgument("adopt: its child", () -> x.adopt(0, 1));
        Check.illegalArgument("adopt: its child's child", () -> x.adopt(0, 2));
        Check.due("adopt: refused changes nothing", x.children(2), 0);
        Check.due("adopt: sister's place is free", x.adopt(2, 0), 1);
        for (int handle : new int[] {-1, 4, 32, Integer.MIN_VALUE, Integer.MAX_VALUE}) {
            Check.noSuchElement("adopt(" + handle + ", 0)", () -> x.adopt(handle, 0));
            Check.noSuchElement("adopt(" + handle + ", NONE)", () -> x.adopt(handle, Archeloft.NONE));
        }
        for (int parent : new int[] {-2, 4, 32, Integer.MIN_VALUE, Integer.MAX_VALUE}) {
            Check.noSuchElement("adopt(0, " + parent + ")", () -> x.adopt(0, parent));
        }
        Archeloft y = withWalk(2);
        Check.noSuchElement("adopt: no parent, in a walk", () -> y.adopt(0, 5));
        Check.illegalArgument("adopt: itself, in a walk", () -> y.adopt(0, 0));
        Check.illegalState("adopt: in a walk", () -> y.adopt(0, 1));
        Check.illegalState("adopt: NONE, in a walk", () -> y.adopt(0, Archeloft.NONE));
        Check.due("adopt: refused in a walk", y.children(1), 0);
    }

    private static void adoptAlongTheLongestChain() {
        Archeloft x = withEntities(32);
        for (int slot = 0; slot < 31; slot++) {
            x.adopt(slot, slot + 1);
        }
        for (int slot = 0; slot < 32; slot++) {
            int below = slot;
            Check.illegalArgument("adopt: 31 would go with " + slot, () -> x.adopt(31, below));
            Check.due("adopt: and has no parent", x.adopt(31, Archeloft.NONE), Archeloft.NONE);
        }
        x.adopt(15, Archeloft.NONE);
        Check.due("adopt: of the part cut off", x.adopt(31, 15), Archeloft.NONE);
        Check.illegalArgument("adopt: the other way round now", () -> x.adopt(15, 16));
        Check.due("adopt: the head of all has two", x.children(15), (1 << 14) | (1 << 31));
        Check.due("adopt: all end with it", x.end(15), 32);
    }

    private static void entitiesAreCounted() {
        Archeloft x = withEntities(3);
        Check.due("entities: three", x.entities(), 3);
        x.add(0, 0, 0);
        Check.due("entities: of all rows", x.entities(), 3);
        x.end(1);
        Check.due("entities: two", x.entities(), 2);
        x.end(0);
        x.end(2);
        Check.due("entities: none again", x.entities(), 0);
        Check.due("entities: all slots", withEntities(32).entities(), 32);
    }

    private static void isThereTellsOldHandles() {
        Archeloft x = withEntities(1);
        Check.due("isThere(0)", x.isThere(0), true);
        for (int handle : NO_HANDLES) {
            Check.due("isThere(" + handle + ")", x.isThere(handle), false);
        }
        x.end(0);
        Check.due("isThere: ended", x.isThere(0), false);
        Check.due("isThere: not yet", x.isThere(32), false);
        x.make();
        Check.due("isThere: old", x.isThere(0), false);
        Check.due("isThere: new", x.isThere(32), true);
    }

    private static void childrenAreSlots() {
        Archeloft x = withEntities(32);
        Check.due("children: none", x.children(0), 0);
        x.end(3);
        x.make();
        x.adopt(35, 0);
        x.adopt(31, 0);
        x.adopt(5, 35);
        Check.due("children: slots 3 and 31", x.children(0), (1 << 3) | (1 << 31));
        Check.due("children: of the child", x.children(35), 1 << 5);
        x.end(35);
        Archeloft all = withEntities(32);
        for (int slot = 0; slot < 31; slot++) {
            all.adopt(slot, 31);
        }
        Check.due("children: 31 of them", all.children(31), Integer.MAX_VALUE);
        Check.due("children: one has ended", x.children(0), 1 << 31);
        x.make();
        Check.due("children: a new one in its slot", x.children(0), 1 << 31);
        Check.noSuchElement("children: old handle", () -> x.children(35));
        Check.noSuchElement("children(-1)", () -> x.children(-1));
        Check.noSuchElement("children(MAX)", () -> x.children(Integer.MAX_VALUE));
    }

    private static Archeloft withEntities(int count) {
        Archeloft x = new Archeloft();
        for (int i = 0; i < count; i++) {
            Check.due("make()", x.make(), i);
        }
        return x;
    }

    private static Archeloft withWalk(int count) {
        Archeloft x = withEntities(count);
        x.walk(x.question(0, 0, 0));
        return x;
    }

    private static void rowIs(String what, Archeloft x, int row, int... handles) {
        Check.due(what + ": size", x.size(row), handles.length);
        for (int place = 0; place < handles.length; place++) {
            Check.due(what + ": place " + place, x.entityAt(row, place), handles[place]);
        }
    }
}
