/** Houses in a known state, made by the same calls each time. */
final class Scenes {
    static final long BUSY_DAY = 8;

    static final int DONE_HOLD = 1;
    static final int EXPIRED_HOLD = 2;
    static final int CANCELLED_HOLD = 3;
    static final int IN_TRANSIT_HOLD = 4;
    static final int READY_HOLD = 5;
    static final int CANCELLED_ON_THE_WAY = 6;
    static final int FIRST_WAITING = 7;
    static final int LAST_BUSY_HOLD = 14;
    static final int[] BUSY_STATES = {3, 4, 5, 1, 2, 5, 0, 0, 0, 0, 0, 0, 0, 0};

    static final int[] BUSY_QUEUE = {9, 7, 8, 10};

    static final int COPY_FOR_TRANSIT = 1;
    static final int READY_COPY = 2;
    static final int COPY_GOING_ON = 3;
    static final int OUT_COPY = 4;
    static final int FREE_COPY = 5;
    static final int FREE_COPY_OF_BARRED = 7;
    static final int LAST_BUSY_COPY = 7;
    static final int[] BUSY_STATES_OF_COPIES = {2, 3, 2, 1, 0, 0, 0};

    static final int AT_ITS_LIMIT = 12;
    static final int LAST_BUSY_RECORD = 5;

    private Scenes() {
    }

    /**
     * Holds in each state and copies in each: record 1 has the most, record 2 FREE copies beside a hold that
     * fits them (its suspension is over), record 3 no copy, record 4 is the same as 2 but barred, record 5 bare.
     */
    static House busy() {
        House house = new House();
        for (int record = 1; record <= LAST_BUSY_RECORD; record++) {
            house.record((record - 1) % 4);
        }
        house.span(5);
        endedHolds(house);
        copiesForHolds(house);
        waitingHolds(house);
        house.tick(BUSY_DAY);
        return house;
    }

    private static void endedHolds(House house) {
        house.copy(1, 0);
        house.hold(0, 1, 0, 0);
        house.back(COPY_FOR_TRANSIT, 0);
        house.pick(DONE_HOLD);
        house.hold(1, 1, 0, 0);
        house.back(COPY_FOR_TRANSIT, 0);
        house.tick(6);
        house.hold(2, 1, 0, 0);
        house.cancel(CANCELLED_HOLD);
    }

    private static void copiesForHolds(House house) {
        house.hold(3, 1, 1, 0);
        house.copy(1, 2);
        house.hold(4, 1, 2, 0);
        house.back(READY_COPY, 2);
        house.copy(1, 3);
        house.hold(5, 1, 3, 0);
        house.back(COPY_GOING_ON, 0);
        house.cancel(CANCELLED_ON_THE_WAY);
        house.copy(1, 4);
    }

    private static void waitingHolds(House house) {
        house.hold(6, 1, 0, 5);
        house.hold(7, 1, 4, 5);
        house.hold(8, 1, 4, Integer.MIN_VALUE);
        house.suspend(9, BUSY_DAY + 2);
        house.hold(9, 1, 5, Integer.MAX_VALUE);
        house.suspend(10, Long.MAX_VALUE);
        house.copy(2, 5);
        house.copy(2, 5);
        house.hold(10, 2, 5, 0);
        house.suspend(11, BUSY_DAY);
        house.back(FREE_COPY, 5);
        house.back(FREE_COPY + 1, 1);
        house.hold(AT_ITS_LIMIT, 3, 0, 0);
        house.most(AT_ITS_LIMIT, 1);
        house.hold(11, 3, 0, 0);
        house.copy(4, 0);
        house.hold(11, 4, 0, 0);
        house.suspend(14, BUSY_DAY);
        house.back(FREE_COPY_OF_BARRED, 0);
        house.bar(3, true);
    }

    /** All 30 records, 60 copies and 120 holds, the last CANCELLED; copy 1 is FREE, though hold 1 fits it by now. */
    static House full() {
        House house = fullButForOneHold();
        house.hold(39, 30, 5, 0);
        house.cancel(120);
        return house;
    }

    /** Three holds of each person, but for the last person, who may have 20 and has two. */
    static House fullButForOneHold() {
        House house = new House();
        for (int n = 0; n < 30; n++) {
            house.record(n % 4);
        }
        for (int n = 0; n < 60; n++) {
            house.copy(1 + n % 30, n % 6);
        }
        for (int n = 0; n < 119; n++) {
            house.hold(n / 3, 1 + n % 30, n % 6, n % 7);
        }
        for (int n = 1; n <= 91; n += 30) {
            house.suspend(n, 4);
        }
        house.back(1, 0);
        house.tick(4);
        house.most(39, 20);
        return house;
    }
}
