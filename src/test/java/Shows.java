/** Objects in the states that the document tells apart, all on a grid of five by four cells. */
enum Shows {
    NEW {
        @Override
        void build(CaseLayout show) {
        }
    },
    NO_THINGS_BUT_A_RUN {
        @Override
        void build(CaseLayout show) {
            show.run(0);
        }
    },
    FOUND {
        @Override
        void build(CaseLayout show) {
            some(show);
            show.run(20000);
        }
    },
    NODES_SPENT_WITH_A_LAYOUT {
        @Override
        void build(CaseLayout show) {
            some(show);
            show.run(20);
        }
    },
    NODES_SPENT_WITHOUT_A_LAYOUT {
        @Override
        void build(CaseLayout show) {
            some(show);
            show.run(2);
        }
    },
    NO_LAYOUT {
        @Override
        void build(CaseLayout show) {
            some(show);
            show.apart(0, 1, 5);
            show.run(20000);
        }
    },
    WITHOUT_A_RUN {
        @Override
        void build(CaseLayout show) {
            some(show);
        }
    },
    FORGOTTEN {
        @Override
        void build(CaseLayout show) {
            some(show);
            show.run(20000);
            show.most(6);
        }
    },
    FULL {
        @Override
        void build(CaseLayout show) {
            full(show);
            show.run(5000);
        }
    },
    FULL_WITHOUT_A_LAYOUT {
        @Override
        void build(CaseLayout show) {
            full(show);
            show.zone(4, 2, 1);
            show.run(5000);
        }
    };

    static final int WIDTH = 5;
    static final int HEIGHT = 4;

    abstract void build(CaseLayout show);

    CaseLayout made() {
        CaseLayout show = new CaseLayout(WIDTH, HEIGHT);
        build(show);
        return show;
    }

    boolean isFull() {
        return this == FULL || this == FULL_WITHOUT_A_LAYOUT;
    }

    boolean hasThings() {
        return this != NEW && this != NO_THINGS_BUT_A_RUN;
    }

    boolean hasFound() {
        return this == NO_THINGS_BUT_A_RUN || this == FOUND || this == NODES_SPENT_WITH_A_LAYOUT || this == FULL;
    }

    /** Three things, two places, two exits; a wall at 2, 1 and at 4, 3; each rule is told at least once. */
    private static void some(CaseLayout show) {
        walls(show);
        show.thing(2, 1, 0);
        show.thing(1, 1, 2);
        show.thing(1, 2, 0);
        show.zone(4, 0, 2);
        show.zone(4, 1, 2);
        show.zone(0, 3, 1);
        show.apart(0, 1, 1);
        show.wish(0, 2, 7);
        show.wish(1, 2, 9);
        show.place(0, 2);
        show.place(3, 3);
        show.sees(0, 0, true);
        show.exit(0, 0);
        show.exit(3, 2);
        show.most(6);
    }

    /** Seven things, eight places, six exits; walls as before. The last thing lies at 4, 2 alone. */
    private static void full(CaseLayout show) {
        walls(show);
        for (int number = 0; number < 6; number++) {
            show.thing(1, 1, number % 2);
            show.zone(number % 3, 3, 1);
        }
        show.thing(1, 1, 3);
        show.zone(4, 2, 3);
        for (int number = 0; number < 8; number++) {
            show.place(number % 4, 2);
        }
        for (int number = 0; number < 6; number++) {
            show.exit(number % 2 * 3, number / 2);
        }
        show.apart(0, 6, 1);
        show.wish(5, 6, 3);
        show.wish(2, 4, 99);
        show.sees(7, 6, true);
        show.sees(0, 1, true);
        show.most(2);
    }

    private static void walls(CaseLayout show) {
        show.wall(2, 1, true);
        show.wall(4, 3, true);
    }
}
