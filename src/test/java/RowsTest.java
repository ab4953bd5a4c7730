/** Promises 14 to 17. */
public final class RowsTest {
    private static final int[] NO_NUMBERS = {-1, Integer.MIN_VALUE, Integer.MAX_VALUE};

    public static void main(String[] args) {
        rowsKeepTheirNumbers();
        rowsOfAllSets();
        setOfTellsKinds();
        sizeTellsHowMany();
        lastOneTakesThePlace();
        entityAtRefuses();
        Check.over();
    }

    private static void rowsKeepTheirNumbers() {
        Archeloft x = new Archeloft();
        Check.due("rows: none", x.rows(), 0);
        int handle = x.make();
        Check.due("rows: the empty set", x.rows(), 1);
        x.add(handle, 3, 0);
        x.add(handle, 1, 0);
        Check.due("rows: three", x.rows(), 3);
        x.take(handle, 3);
        Check.due("rows: four", x.rows(), 4);
        x.take(handle, 1);
        x.add(handle, 3, 0);
        Check.due("rows: none anew", x.rows(), 4);
        x.end(handle);
        Check.due("rows: empty ones stay", x.rows(), 4);
        Check.due("rows: number of the set 8", x.setOf(1), 8);
        Check.due("rows: number of the set 10", x.setOf(2), 10);
        Check.due("rows: number of the set 2", x.setOf(3), 2);
    }

    private static void rowsOfAllSets() {
        Archeloft x = new Archeloft();
        int handle = x.make();
        // each step of this walk through all sets changes one kind
        for (int step = 1; step < 64; step++) {
            int kind = Integer.numberOfTrailingZeros(step);
            if ((x.kinds(handle) & (1 << kind)) == 0) {
                x.add(handle, kind, step);
            } else {
                x.take(handle, kind);
            }
        }
        Check.due("rows: of all sets", x.rows(), 64);
        Check.due("rows: the last one", x.setOf(63), 32);
        Check.due("rows: it lies there", x.entityAt(63, 0), handle);
        Check.outOfBounds("setOf(64)", () -> x.setOf(64));
    }

    private static void setOfTellsKinds() {
        Archeloft x = new Archeloft();
        Check.outOfBounds("setOf(0) of none", () -> x.setOf(0));
        int handle = x.make();
        x.add(handle, 5, 0);
        Check.due("setOf(0)", x.setOf(0), 0);
        Check.due("setOf(1)", x.setOf(1), 32);
        Check.outOfBounds("setOf(2)", () -> x.setOf(2));
        for (int row : NO_NUMBERS) {
            Check.outOfBounds("setOf(" + row + ")", () -> x.setOf(row));
        }
    }

    private static void sizeTellsHowMany() {
        Archeloft x = new Archeloft();
        Check.outOfBounds("size(0) of none", () -> x.size(0));
        x.make();
        x.make();
        x.add(1, 0, 0);
        Check.due("size(0)", x.size(0), 1);
        Check.due("size(1)", x.size(1), 1);
        x.end(0);
        Check.due("size of an empty row", x.size(0), 0);
        Check.outOfBounds("size(2)", () -> x.size(2));
        Archeloft full = new Archeloft();
        for (int slot = 0; slot < 32; slot++) {
            full.make();
            Check.due("size of a growing row", full.size(0), slot + 1);
        }
        for (int slot = 0; slot < 32; slot++) {
            full.add(slot, 2, 0);
        }
        Check.due("size: all have left", full.size(0), 0);
        Check.due("size: all are here", full.size(1), 32);
        Check.due("entityAt: the last place", full.entityAt(1, 31), 31);
        Check.outOfBounds("entityAt: behind it", () -> full.entityAt(1, 32));
        Check.outOfBounds("entityAt: of the empty row", () -> full.entityAt(0, 0));
        for (int row : NO_NUMBERS) {
            Check.outOfBounds("size(" + row + ")", () -> x.size(row));
        }
    }

    private static void lastOneTakesThePlace() {
        Archeloft x = new Archeloft();
        for (int i = 0; i < 5; i++) {
            x.make();
        }
        x.add(1, 0, 0);
        rowIs(x, 0, 0, 4, 2, 3);
        x.add(3, 0, 0);
        rowIs(x, 0, 0, 4, 2);
        rowIs(x, 1, 1, 3);
        x.end(0);
        rowIs(x, 0, 2, 4);
        x.take(1, 0);
        rowIs(x, 0, 2, 4, 1);
        rowIs(x, 1, 3);
        x.make();
        rowIs(x, 0, 2, 4, 1, 32);
        x.end(3);
        rowIs(x, 1);
    }

    private static void entityAtRefuses() {
        Archeloft x = new Archeloft();
        Check.outOfBounds("entityAt(0, 0) of none", () -> x.entityAt(0, 0));
        x.make();
        x.make();
        Check.due("entityAt(0, 1)", x.entityAt(0, 1), 1);
        Check.outOfBounds("entityAt(0, 2)", () -> x.entityAt(0, 2));
        Check.outOfBounds("entityAt(1, 0)", () -> x.entityAt(1, 0));
        for (int number : NO_NUMBERS) {
            Check.outOfBounds("entityAt(" + number + ", 0)", () -> x.entityAt(number, 0));
            Check.outOfBounds("entityAt(0, " + number + ")", () -> x.entityAt(0, number));
        }
    }

    private static void rowIs(Archeloft x, int row, int... handles) {
        Check.due("size(" + row + ")", x.size(row), handles.length);
        for (int place = 0; place < handles.length; place++) {
            Check.due("entityAt(" + row + ", " + place + ")", x.entityAt(row, place), handles[place]);
        }
        Check.outOfBounds("entityAt behind the row", () -> x.entityAt(row, handles.length));
    }
}
