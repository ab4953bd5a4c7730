import java.util.ArrayList;
import java.util.NoSuchElementException;

/** A store of entities by sets of components; the promises are numbered in the document. */
public final class Archeloft {
    public static final int NONE = -1;
    public static final int ADD = 0;
    public static final int TAKE = 1;
    public static final int END = 2;
    public static final int MAKE = 3;

    private static final int SLOTS = 32;
    private static final int KINDS = 6;
    private static final int ALL_KINDS = 63;
    private static final int NO_KINDS = 0;
    private static final int MOST_QUESTIONS = 8;
    private static final int MOST_SYSTEMS = 8;
    private static final int MOST_COMMANDS = 20;

    private final Entity[] slots = new Entity[SLOTS];
    private final ArrayList<Row> rowList = new ArrayList<>();
    private final ArrayList<Question> questionList = new ArrayList<>();
    private final ArrayList<StagedSystem> systemList = new ArrayList<>();
    private Walk walkOfNow = null;
    private int tickOfNow = 0;

    public Archeloft() {
        for (int slot = 0; slot < SLOTS; slot++) {
            slots[slot] = new Entity(slot);
        }
    }

    // ---- entities

    public int make() throws IllegalStateException {
        refuseDuringWalk();
        Entity entity = lowestFree();
        entity.there = true;
        rowOf(NO_KINDS).members.add(entity);
        return entity.handle;
    }

    public int end(int handle) throws NoSuchElementException, IllegalStateException {
        Entity head = entityOf(handle);
        refuseDuringWalk();
        ArrayList<Entity> family = familyOf(head);
        for (int i = 0; i < family.size(); i++) {
            Entity entity = family.get(i);
            rowOf(entity.kindSet).putOut(entity);
            entity.freeSlot();
        }
        return family.size();
    }

    public int adopt(int handle, int parent)
            throws NoSuchElementException, IllegalArgumentException, IllegalStateException {
        Entity child = entityOf(handle);
        Entity newParent = parent == NONE ? null : entityOf(parent);
        refuseCircle(child, newParent);
        refuseDuringWalk();
        Entity oldParent = child.parent;
        child.parent = newParent;
        return oldParent == null ? NONE : oldParent.handle;
    }

    public int entities() {
        int count = 0;
        for (int slot = 0; slot < SLOTS; slot++) {
            if (slots[slot].there) {
                count++;
            }
        }
        return count;
    }

    public boolean isThere(int handle) {
        return slotOf(handle).isOf(handle);
    }

    public int children(int handle) throws NoSuchElementException {
        Entity parent = entityOf(handle);
        int children = 0;
        for (int slot = 0; slot < SLOTS; slot++) {
            if (slots[slot].parent == parent) {
                children |= 1 << slot;
            }
        }
        return children;
    }

    // ---- components

    public int add(int handle, int kind, int value)
            throws NoSuchElementException, IllegalArgumentException, IllegalStateException {
        Entity entity = entityOf(handle);
        refuseNoKind(kind);
        if (entity.has(kind)) {
            throw new IllegalStateException("the entity has that kind");
        }
        refuseDuringWalk();
        moveTo(entity, entity.kindSet | (1 << kind));
        entity.put(kind, value, tickOfNow);
        return entity.kindSet;
    }

    public int take(int handle, int kind)
            throws NoSuchElementException, IllegalArgumentException, IllegalStateException {
        Entity entity = ownerOf(handle, kind);
        refuseDuringWalk();
        moveTo(entity, entity.kindSet & ~(1 << kind));
        return entity.values[kind];
    }

    public int set(int handle, int kind, int value)
            throws NoSuchElementException, IllegalArgumentException, IllegalStateException {
        Entity entity = ownerOf(handle, kind);
        int before = entity.values[kind];
        entity.put(kind, value, tickOfNow);
        return before;
    }

    public int value(int handle, int kind)
            throws NoSuchElementException, IllegalArgumentException, IllegalStateException {
        return ownerOf(handle, kind).values[kind];
    }

    public int mark(int handle, int kind)
            throws NoSuchElementException, IllegalArgumentException, IllegalStateException {
        return ownerOf(handle, kind).marks[kind];
    }

    public int kinds(int handle) throws NoSuchElementException {
        return entityOf(handle).kindSet;
    }

    // ---- rows

    public int rows() {
        return rowList.size();
    }

    public int setOf(int row) throws IndexOutOfBoundsException {
        return rowNumbered(row).kindSet;
    }

    public int size(int row) throws IndexOutOfBoundsException {
        return rowNumbered(row).members.size();
    }

    public int entityAt(int row, int place) throws IndexOutOfBoundsException {
        return handleAt(rowNumbered(row).members, place);
    }

    // ---- questions

    public int question(int all, int none, int any) throws IllegalArgumentException, IllegalStateException {
        refuseNoSet(all);
        refuseNoSet(none);
        refuseNoSet(any);
        if (questionList.size() >= MOST_QUESTIONS) {
            throw new IllegalStateException("there are 8 questions");
        }
        questionList.add(new Question(all, none, any));
        return questionList.size() - 1;
    }

    public int answers(int question) throws IndexOutOfBoundsException {
        Question asked = questionNumbered(question);
        int count = 0;
        for (int i = 0; i < rowList.size(); i++) {
            Row row = rowList.get(i);
            if (asked.isAnsweredBy(row.kindSet)) {
                count += row.members.size();
            }
        }
        return count;
    }

    public int answersOneByOne(int question) throws IndexOutOfBoundsException {
        Question asked = questionNumbered(question);
        int count = 0;
        for (int slot = 0; slot < SLOTS; slot++) {
            Entity entity = slots[slot];
            if (entity.there && asked.isAnsweredBy(entity.kindSet)) {
                count++;
            }
        }
        return count;
    }

    public int answer(int question, int place) throws IndexOutOfBoundsException {
        return handleAt(answersOf(questionNumbered(question)), place);
    }

    public int answeringRows(int question) throws IndexOutOfBoundsException {
        Question asked = questionNumbered(question);
        int count = 0;
        for (int i = 0; i < rowList.size(); i++) {
            if (asked.isAnsweredBy(rowList.get(i).kindSet)) {
                count++;
            }
        }
        return count;
    }

    public int changed(int question, int tick) throws IndexOutOfBoundsException {
        ArrayList<Entity> answers = answersOf(questionNumbered(question));
        int count = 0;
        for (int i = 0; i < answers.size(); i++) {
            if (answers.get(i).isMarkedAfter(tick)) {
                count++;
            }
        }
        return count;
    }

    // ---- walks

    public int walk(int question) throws IndexOutOfBoundsException, IllegalStateException {
        Question asked = questionNumbered(question);
        refuseDuringWalk();
        ArrayList<Entity> answers = answersOf(asked);
        walkOfNow = new Walk(answers);
        return answers.size();
    }

    public int next() throws IllegalStateException {
        Walk walk = walkThatGoesOn();
        if (walk.told >= walk.answers.size()) {
            return NONE;
        }
        int handle = walk.answers.get(walk.told).handle;
        walk.told++;
        return handle;
    }

    public int defer(int command, int handle, int kind, int value)
            throws IllegalArgumentException, IllegalStateException {
        if (command != ADD && command != TAKE && command != END && command != MAKE) {
            throw new IllegalArgumentException("there is no such command");
        }
        Walk walk = walkThatGoesOn();
        if (walk.commands.size() >= MOST_COMMANDS) {
            throw new IllegalStateException("20 commands wait");
        }
        walk.commands.add(new Command(command, handle, kind, value));
        return walk.commands.size();
    }

    public int finish() throws IllegalStateException {
        ArrayList<Command> commands = walkThatGoesOn().commands;
        walkOfNow = null;
        int done = 0;
        for (int i = 0; i < commands.size(); i++) {
            if (couldDo(commands.get(i))) {
                done++;
            }
        }
        return done;
    }

    // ---- systems

    public int system(int reads, int writes) throws IllegalArgumentException, IllegalStateException {
        refuseNoSet(reads);
        refuseNoSet(writes);
        if (systemList.size() >= MOST_SYSTEMS) {
            throw new IllegalStateException("there are 8 systems");
        }
        int stage = stageFor(reads, writes);
        systemList.add(new StagedSystem(reads, writes, stage));
        return stage;
    }

    public int stage(int system) throws IndexOutOfBoundsException {
        if (system < 0 || system >= systemList.size()) {
            throw new IndexOutOfBoundsException("there is no such system");
        }
        return systemList.get(system).stage;
    }

    public int stages() {
        int count = 0;
        for (int i = 0; i < systemList.size(); i++) {
            count = Math.max(count, systemList.get(i).stage + 1);
        }
        return count;
    }

    public int run() throws IllegalStateException {
        refuseDuringWalk();
        tickOfNow++;
        int stageCount = stages();
        int valuesSet = 0;
        for (int stage = 0; stage < stageCount; stage++) {
            valuesSet += runStage(stage);
        }
        return valuesSet;
    }

    public int tick() {
        return tickOfNow;
    }

    // ---- what the calls share

    private void refuseDuringWalk() {
        if (walkOfNow != null) {
            throw new IllegalStateException("there is a walk");
        }
    }

    private Walk walkThatGoesOn() {
        Walk walk = walkOfNow;
        if (walk == null) {
            throw new IllegalStateException("there is no walk");
        }
        return walk;
    }

    private static void refuseNoKind(int kind) {
        if (kind < 0 || kind >= KINDS) {
            throw new IllegalArgumentException("there is no such kind");
        }
    }

    private static void refuseNoSet(int kindSet) {
        if (kindSet < NO_KINDS || kindSet > ALL_KINDS) {
            throw new IllegalArgumentException("this is no set of kinds");
        }
    }

    private static void refuseCircle(Entity child, Entity newParent) {
        for (Entity above = newParent; above != null; above = above.parent) {
            if (above == child) {
                throw new IllegalArgumentException("an entity would go with itself");
            }
        }
    }

    private Entity slotOf(int handle) {
        return slots[handle & (SLOTS - 1)];
    }

    private Entity entityOf(int handle) {
        Entity entity = slotOf(handle);
        if (!entity.isOf(handle)) {
            throw new NoSuchElementException("the handle is of no entity");
        }
        return entity;
    }

    private Entity ownerOf(int handle, int kind) {
        Entity entity = entityOf(handle);
        refuseNoKind(kind);
        if (!entity.has(kind)) {
            throw new IllegalStateException("the entity does not have that kind");
        }
        return entity;
    }

    private Entity lowestFree() {
        for (int slot = 0; slot < SLOTS; slot++) {
            if (!slots[slot].there) {
                return slots[slot];
            }
        }
        throw new IllegalStateException("no slot is free");
    }

    /** The order matters: each one that leaves a row changes the places in it. */
    private ArrayList<Entity> familyOf(Entity head) {
        ArrayList<Entity> family = new ArrayList<>();
        family.add(head);
        for (int i = 0; i < SLOTS && i < family.size(); i++) {
            Entity parent = family.get(i);
            for (int slot = SLOTS - 1; slot >= 0; slot--) {
                if (slots[slot].parent == parent) {
                    family.add(i + 1, slots[slot]);
                }
            }
        }
        return family;
    }

    private Row rowOf(int kindSet) {
        for (int i = 0; i < rowList.size(); i++) {
            Row row = rowList.get(i);
            if (row.kindSet == kindSet) {
                return row;
            }
        }
        Row row = new Row(kindSet);
        rowList.add(row);
        return row;
    }

    private void moveTo(Entity entity, int kindSet) {
        rowOf(entity.kindSet).putOut(entity);
        entity.kindSet = kindSet;
        rowOf(kindSet).members.add(entity);
    }

    private Row rowNumbered(int number) {
        if (number < 0 || number >= rowList.size()) {
            throw new IndexOutOfBoundsException("there is no such row");
        }
        return rowList.get(number);
    }

    private static int handleAt(ArrayList<Entity> entities, int place) {
        if (place < 0 || place >= entities.size()) {
            throw new IndexOutOfBoundsException("there is no such place");
        }
        return entities.get(place).handle;
    }

    private Question questionNumbered(int number) {
        if (number < 0 || number >= questionList.size()) {
            throw new IndexOutOfBoundsException("there is no such question");
        }
        return questionList.get(number);
    }

    private ArrayList<Entity> answersOf(Question asked) {
        ArrayList<Entity> answers = new ArrayList<>();
        for (int i = 0; i < rowList.size(); i++) {
            Row row = rowList.get(i);
            if (asked.isAnsweredBy(row.kindSet)) {
                for (int place = 0; place < row.members.size(); place++) {
                    answers.add(row.members.get(place));
                }
            }
        }
        return answers;
    }

    /** A waiting command is left out for just what its call would throw, so the call itself is asked. */
    private boolean couldDo(Command command) {
        try {
            switch (command.what) {
                case ADD:
                    add(command.handle, command.kind, command.value);
                    break;
                case TAKE:
                    take(command.handle, command.kind);
                    break;
                case END:
                    end(command.handle);
                    break;
                default:
                    makeWith(command.kind, command.value);
                    break;
            }
        } catch (NoSuchElementException leftOut) {
            return false;
        } catch (IllegalArgumentException leftOut) {
            return false;
        } catch (IllegalStateException leftOut) {
            return false;
        }
        return true;
    }

    /** The kind is looked at first: behind make, nothing may fail any more. */
    private void makeWith(int kind, int value) {
        refuseNoKind(kind);
        int handle = make();
        add(handle, kind, value);
    }

    private int stageFor(int reads, int writes) {
        int stage = 0;
        for (int i = 0; i < systemList.size(); i++) {
            StagedSystem earlier = systemList.get(i);
            if (earlier.bars(reads, writes)) {
                stage = Math.max(stage, earlier.stage + 1);
            }
        }
        return stage;
    }

    private int runStage(int stage) {
        int valuesSet = 0;
        for (int i = 0; i < systemList.size(); i++) {
            StagedSystem system = systemList.get(i);
            if (system.stage == stage) {
                valuesSet += runSystem(system);
            }
        }
        return valuesSet;
    }

    private int runSystem(StagedSystem system) {
        int valuesSet = 0;
        for (int i = 0; i < rowList.size(); i++) {
            Row row = rowList.get(i);
            if (system.isFor(row.kindSet)) {
                for (int place = 0; place < row.members.size(); place++) {
                    valuesSet += system.workOn(row.members.get(place), tickOfNow);
                }
            }
        }
        return valuesSet;
    }

    /** A slot and the entity that is in it; made once, and used again by all that have the slot. */
    private static final class Entity {
        private final int[] values = new int[KINDS];
        private final int[] marks = new int[KINDS];
        /** While the slot is free, the handle of the entity that comes next. */
        private int handle;
        private boolean there = false;
        private Entity parent = null;
        private int kindSet = NO_KINDS;

        Entity(int slot) {
            handle = slot;
        }

        boolean isOf(int someHandle) {
            return there && handle == someHandle;
        }

        boolean has(int kind) {
            return (kindSet & (1 << kind)) != NO_KINDS;
        }

        void put(int kind, int newValue, int tickOfChange) {
            values[kind] = newValue;
            marks[kind] = tickOfChange;
        }

        boolean isMarkedAfter(int someTick) {
            for (int kind = 0; kind < KINDS; kind++) {
                if (has(kind) && marks[kind] > someTick) {
                    return true;
                }
            }
            return false;
        }

        void freeSlot() {
            there = false;
            handle += SLOTS;
            parent = null;
            kindSet = NO_KINDS;
        }
    }

    private static final class Row {
        private final int kindSet;
        private final ArrayList<Entity> members = new ArrayList<>();

        Row(int kindSet) {
            this.kindSet = kindSet;
        }

        void putOut(Entity entity) {
            int last = members.size() - 1;
            for (int place = 0; place <= last; place++) {
                if (members.get(place) == entity) {
                    members.set(place, members.get(last));
                    members.remove(last);
                    return;
                }
            }
        }
    }

    private static final class Question {
        private final int all;
        private final int none;
        private final int any;

        Question(int all, int none, int any) {
            this.all = all;
            this.none = none;
            this.any = any;
        }

        boolean isAnsweredBy(int kindSet) {
            return (kindSet & all) == all
                    && (kindSet & none) == NO_KINDS
                    && (any == NO_KINDS || (kindSet & any) != NO_KINDS);
        }
    }

    private static final class Walk {
        private final ArrayList<Entity> answers;
        private final ArrayList<Command> commands = new ArrayList<>();
        private int told = 0;

        Walk(ArrayList<Entity> answers) {
            this.answers = answers;
        }
    }

    private static final class Command {
        private final int what;
        private final int handle;
        private final int kind;
        private final int value;

        Command(int what, int handle, int kind, int value) {
            this.what = what;
            this.handle = handle;
            this.kind = kind;
            this.value = value;
        }
    }

    private static final class StagedSystem {
        private final int reads;
        private final int writes;
        private final int stage;

        StagedSystem(int reads, int writes, int stage) {
            this.reads = reads;
            this.writes = writes;
            this.stage = stage;
        }

        boolean bars(int otherReads, int otherWrites) {
            return (writes & (otherReads | otherWrites)) != NO_KINDS
                    || (otherWrites & (reads | writes)) != NO_KINDS;
        }

        boolean isFor(int kindSet) {
            int needed = reads | writes;
            return (kindSet & needed) == needed;
        }

        /** The sum is taken before anything is written: a kind may be both read and written. */
        int workOn(Entity entity, int tickOfRun) {
            int sum = 1;
            for (int kind = 0; kind < KINDS; kind++) {
                if ((reads & (1 << kind)) != NO_KINDS) {
                    sum += entity.values[kind];
                }
            }
            int valuesSet = 0;
            for (int kind = 0; kind < KINDS; kind++) {
                if ((writes & (1 << kind)) != NO_KINDS) {
                    entity.put(kind, entity.values[kind] + sum, tickOfRun);
                    valuesSet++;
                }
            }
            return valuesSet;
        }
    }
}
