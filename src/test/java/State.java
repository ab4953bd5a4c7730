/** Ways in which a store can stand before a call is refused; each is built in few calls, the same ones each time. */
enum State {
    NEW {
        @Override
        void build(Archeloft x) {
            Check.due("new", x.entities(), 0);
        }
    },

    /** Handles 32, 1, 2, 3 in the slots 0 to 3; 1 has the kinds 0 and 5 and the child 2, which has 0 and the child 3. */
    PLAIN {
        @Override
        void build(Archeloft x) {
            x.end(x.make());
            for (int i = 0; i < 4; i++) {
                x.make();
            }
            x.add(1, 0, 10);
            x.add(1, 5, -10);
            x.run();
            x.add(2, 0, 20);
            x.adopt(2, 1);
            x.adopt(3, 2);
            x.question(0, 0, 0);
            x.question(1, 0, 0);
            x.question(2, 0, 0);
            x.system(1, 32);
            x.system(32, 0);
        }
    },

    WALK {
        @Override
        void build(Archeloft x) {
            PLAIN.build(x);
            beginWalk(x);
        }
    },

    /** All slots taken; the handles in the slots 0 to 3 as in PLAIN. */
    FULL {
        @Override
        void build(Archeloft x) {
            PLAIN.build(x);
            for (int slot = 4; slot < 32; slot++) {
                x.make();
            }
        }
    },

    FULL_WALK {
        @Override
        void build(Archeloft x) {
            FULL.build(x);
            beginWalk(x);
        }
    },

    TWENTY_COMMANDS {
        @Override
        void build(Archeloft x) {
            WALK.build(x);
            for (int i = 2; i < 20; i++) {
                x.defer(Archeloft.MAKE, 0, i % 7, i);
            }
        }
    },

    EIGHT_QUESTIONS {
        @Override
        void build(Archeloft x) {
            PLAIN.build(x);
            for (int number = 3; number < 8; number++) {
                x.question(0, 1 << (number - 3), 0);
            }
        }
    },

    EIGHT_SYSTEMS {
        @Override
        void build(Archeloft x) {
            PLAIN.build(x);
            for (int number = 2; number < 8; number++) {
                x.system(1 << (number - 2), 1);
            }
        }
    };

    /** None of these is of an entity in PLAIN: below 0, old ones, next ones, and those of free slots. */
    static final int[] NO_HANDLES = {
        Archeloft.NONE, -2, -31, -32, 0, 64, 33, 34, 65, 4, 31, 36,
        Integer.MIN_VALUE, Integer.MIN_VALUE + 1, Integer.MAX_VALUE, Integer.MAX_VALUE - 30};
    /** By its lowest five bits alone, 32, 37 or -32 would be a kind that entity 1 has in PLAIN. */
    static final int[] NO_KINDS = {-1, 6, 31, 32, 33, 37, -32, Integer.MIN_VALUE, Integer.MAX_VALUE};
    static final int[] NO_SETS = {-1, 64, 65, 127, -64, Integer.MIN_VALUE, Integer.MAX_VALUE};

    abstract void build(Archeloft x);

    /** All answers as they are, one of them told, two commands waiting. */
    private static void beginWalk(Archeloft x) {
        x.walk(0);
        x.next();
        x.defer(Archeloft.ADD, 32, 3, 7);
        x.defer(Archeloft.END, 3, 0, 0);
    }
}
