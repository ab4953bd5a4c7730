/** Promises 28 to 32. */
public final class SystemsTest {
    public static void main(String[] args) {
        systemRefuses();
        stagesByBars();
        stageRefuses();
        runCountsAndMarks();
        runAddsUpAsTheyAre();
        runGoesByStages();
        runTakesRightEntities();
        runOfEightStages();
        runOfAllThereCanBe();
        runRefuses();
        tickGrowsByRuns();
        Check.over();
    }

    private static void systemRefuses() {
        Archeloft x = new Archeloft();
        for (int set : new int[] {-1, 64, Integer.MIN_VALUE, Integer.MAX_VALUE}) {
            Check.illegalArgument("system(" + set + ", 0)", () -> x.system(set, 0));
            Check.illegalArgument("system(0, " + set + ")", () -> x.system(0, set));
        }
        Check.due("system: refused changes nothing", x.stages(), 0);
        for (int number = 0; number < 8; number++) {
            Check.due("system " + number, x.system(63, 63), number);
        }
        Check.illegalState("system: a ninth", () -> x.system(0, 0));
        Check.illegalArgument("system: a ninth out of range", () -> x.system(64, 0));
        Check.due("system: eight stages", x.stages(), 8);
    }

    private static void stagesByBars() {
        Archeloft x = new Archeloft();
        Check.due("stages: no systems", x.stages(), 0);
        Check.due("system: the first one", x.system(1, 2), 0);
        Check.due("stages: one", x.stages(), 1);
        Check.due("system: both read", x.system(1, 0), 0);
        Check.due("system: reads what one writes", x.system(2, 4), 1);
        Check.due("system: writes what two read", x.system(0, 1), 1);
        Check.due("system: writes what one writes", x.system(0, 4), 2);
        Check.due("system: bars none", x.system(8, 16), 0);
        Check.due("system: reads what the one in stage 2 writes", x.system(4, 32), 3);
        Check.due("system: neither reads nor writes", x.system(0, 0), 0);
        Check.due("stages: four", x.stages(), 4);
        int[] due = {0, 0, 1, 1, 2, 0, 3, 0};
        for (int number = 0; number < 8; number++) {
            Check.due("stage(" + number + ")", x.stage(number), due[number]);
        }

        Archeloft y = new Archeloft();
        y.system(0, 1);
        y.system(1, 2);
        y.system(4, 0);
        Check.due("system: above the highest one it bars, not the last one", y.system(2, 4), 2);
        Check.due("stages: the highest one need not be the last one", y.system(0, 32) + y.stages(), 3);
    }

    private static void stageRefuses() {
        Archeloft x = new Archeloft();
        Check.outOfBounds("stage(0) of none", () -> x.stage(0));
        x.system(0, 0);
        for (int number : new int[] {-1, 1, 8, Integer.MIN_VALUE, Integer.MAX_VALUE}) {
            Check.outOfBounds("stage(" + number + ")", () -> x.stage(number));
        }
        x.make();
        x.walk(x.question(0, 0, 0));
        Check.due("system: in a walk", x.system(0, 1), 0);
    }

    private static void runCountsAndMarks() {
        Archeloft x = new Archeloft();
        Check.due("run: nothing", x.run(), 0);
        for (int i = 0; i < 3; i++) {
            x.make();
            x.add(i, 0, i);
        }
        x.add(0, 1, 10);
        x.add(1, 1, 20);
        x.system(1, 2);
        Check.due("run: two values", x.run(), 2);
        Check.due("run: 10 and 0 and 1", x.value(0, 1), 11);
        Check.due("run: 20 and 1 and 1", x.value(1, 1), 22);
        Check.due("run: what is written is marked", x.mark(0, 1), 2);
        Check.due("run: what is read is not", x.mark(0, 0), 1);
        Check.due("run: who lacks a kind is left", x.value(2, 0), 2);
        x.system(0, 3);
        Check.due("run: six values", x.run(), 6);
        Check.due("run: none is made or moved", x.rows(), 3);
    }

    private static void runAddsUpAsTheyAre() {
        Archeloft x = new Archeloft();
        x.make();
        for (int kind = 0; kind < 6; kind++) {
            x.add(0, kind, 1 << (4 * kind));
        }
        x.system(63, 33);
        Check.due("run: two kinds are set", x.run(), 2);
        Check.due("run: read and written, kind 0", x.value(0, 0), 0x111112 + 1);
        Check.due("run: read and written, kind 5", x.value(0, 5), 0x111112 + 0x100000);
        Check.due("run: only read", x.value(0, 4), 0x10000);
        Archeloft y = new Archeloft();
        y.make();
        y.add(0, 0, Integer.MAX_VALUE);
        y.add(0, 1, Integer.MAX_VALUE);
        y.system(3, 1);
        y.run();
        Check.due("run: sums wrap around", y.value(0, 0), Integer.MAX_VALUE - 1);
    }

    private static void runGoesByStages() {
        Archeloft x = new Archeloft();
        x.make();
        x.add(0, 0, 1);
        x.add(0, 1, 1);
        x.add(0, 2, 1);
        Check.due("system: writes 1", x.system(1, 2), 0);
        Check.due("system: reads 1, writes 2", x.system(2, 4), 1);
        Check.due("system: writes 0", x.system(0, 1), 1);
        Check.due("run: three values", x.run(), 3);
        Check.due("run: kind 1 is 1 and 1 and 1", x.value(0, 1), 3);
        Check.due("run: kind 2 has what stage 0 wrote", x.value(0, 2), 5);
        Check.due("run: kind 0 was read before it was written", x.value(0, 0), 2);
    }

    private static void runTakesRightEntities() {
        Archeloft x = new Archeloft();
        x.make();
        x.add(0, 0, 0);
        x.make();
        x.add(1, 1, 0);
        x.make();
        x.system(0, 0);
        Check.due("run: writes nothing", x.run(), 0);
        x.system(1, 2);
        Check.due("run: none has both kinds", x.run(), 0);
        x.system(0, 1);
        Check.due("run: reads nothing", x.run(), 1);
        Check.due("run: the sum is 1", x.value(0, 0), 1);
        x.adopt(0, 1);
        x.end(1);
        Check.due("run: ended ones are left", x.run(), 0);
    }

    private static void runOfEightStages() {
        Archeloft x = new Archeloft();
        x.make();
        x.add(0, 0, 0);
        for (int number = 0; number < 8; number++) {
            Check.due("system: each in its stage", x.system(1, 1), number);
        }
        Check.due("run: eight values", x.run(), 8);
        Check.due("run: v and v and 1, eight times", x.value(0, 0), 255);
        Check.due("run: one tick", x.tick(), 1);
    }

    private static void runOfAllThereCanBe() {
        Archeloft x = new Archeloft();
        for (int slot = 0; slot < 32; slot++) {
            x.make();
            for (int kind = 0; kind < 6; kind++) {
                x.add(slot, kind, slot);
            }
        }
        for (int number = 0; number < 8; number++) {
            x.system(0, 63);
        }
        Check.due("run: 8 times 32 times 6", x.run(), 1536);
        Check.due("run: the first value", x.value(0, 0), 8);
        Check.due("run: the last value", x.value(31, 5), 39);
    }

    private static void runRefuses() {
        Archeloft x = new Archeloft();
        x.make();
        x.add(0, 0, 5);
        x.system(0, 1);
        x.walk(x.question(0, 0, 0));
        Check.illegalState("run: in a walk", x::run);
        Check.due("run: refused keeps the tick", x.tick(), 0);
        Check.due("run: refused keeps the value", x.value(0, 0), 5);
        x.finish();
        Check.due("run: behind the walk", x.run(), 1);
    }

    private static void tickGrowsByRuns() {
        Archeloft x = new Archeloft();
        for (int due = 0; due < 5; due++) {
            Check.due("tick()", x.tick(), due);
            x.run();
        }
        x.make();
        x.add(0, 0, 0);
        x.set(0, 0, 1);
        Check.due("tick: by runs alone", x.tick(), 5);
    }
}
