import java.util.Arrays;

/** Holds on records in a house of several places; README.md tells how to use it. */
public final class HoldQueue {
    public static final int NONE = -1;

    private static final int KINDS = 4;
    private static final int PERSONS = 40;
    private static final int PLACES = 6;
    private static final int MOST_RECORDS = 30;
    private static final int MOST_COPIES = 60;
    private static final int MOST_HOLDS = 120;
    private static final int MOST_HOLDS_OF_PERSON = 20;
    private static final int FIRST_HOLDS_OF_PERSON = 3;
    private static final int FIRST_SPAN = 7;
    private static final int LONGEST_SPAN = 99;
    private static final long LAST_DAY = 1000000000L;
    private static final int TOO_MANY = -1;

    private static final int WAITING = 0;
    private static final int IN_TRANSIT = 1;
    private static final int READY = 2;
    private static final int DONE = 3;
    private static final int EXPIRED = 4;
    private static final int CANCELLED = 5;

    private static final int COPY_FREE = 0;
    private static final int COPY_OUT = 1;
    private static final int COPY_ON_ITS_WAY = 2;
    private static final int COPY_READY = 3;

    // Row 0 of every numbered table stays unused, so that 0 can stand for "none".
    private final int[] kindOfRecord = new int[MOST_RECORDS + 1];
    private int recordCount = 0;
    private final boolean[] barredKind = new boolean[KINDS];
    private final int[] mostOfPerson = new int[PERSONS];
    private final Copies copies = new Copies();
    private final Holds holds = new Holds();
    private long today = 0;
    private int spanDays = FIRST_SPAN;

    public HoldQueue() {
        Arrays.fill(mostOfPerson, FIRST_HOLDS_OF_PERSON);
    }

    public int record(int kind) {
        if (!isKind(kind) || recordCount >= MOST_RECORDS) {
            return 0;
        }
        recordCount++;
        kindOfRecord[recordCount] = kind;
        return recordCount;
    }

    public int copy(int record, int place) {
        if (!isRecord(record) || !isPlace(place) || copies.areFull()) {
            return 0;
        }
        return copies.add(record, place);
    }

    public boolean bar(int kind, boolean on) {
        if (!isKind(kind)) {
            return false;
        }
        boolean before = barredKind[kind];
        barredKind[kind] = on;
        return before;
    }

    public int hold(int person, int record, int place, int rank) {
        if (!isPerson(person) || !isRecord(record) || !isPlace(place)) {
            return 0;
        }
        if (barredKind[kindOfRecord[record]] || holds.hasOpen(person, record) || holds.areFull()) {
            return 0;
        }
        if (holds.countOpen(person) >= mostOfPerson[person]) {
            return TOO_MANY;
        }
        int added = holds.add(person, record, place, rank);
        int free = copies.leastFree(record);
        if (free != 0) {
            settle(free);
        }
        return added;
    }

    public int most(int person, int n) {
        if (!isPerson(person) || n < 0 || n > MOST_HOLDS_OF_PERSON) {
            return NONE;
        }
        int before = mostOfPerson[person];
        mostOfPerson[person] = n;
        return before;
    }

    public int suspend(int hold, long until) {
        if (!holds.isIn(hold, WAITING)) {
            return 0;
        }
        holds.suspendedUntil[hold] = until;
        return 1;
    }

    public int back(int copy, int place) {
        if (!copies.isIn(copy, COPY_OUT) || !isPlace(place)) {
            return NONE;
        }
        copies.placeOf[copy] = place;
        return settle(copy);
    }

    public int arrive(int copy) {
        if (!copies.isIn(copy, COPY_ON_ITS_WAY)) {
            return NONE;
        }
        int awaited = copies.holdOf[copy];
        if (holds.isIn(awaited, IN_TRANSIT)) {
            layReady(copy, awaited);
            return 1;
        }
        untie(copy, awaited);
        settle(copy);
        return 0;
    }

    public int pick(int hold) {
        if (!holds.isIn(hold, READY)) {
            return 0;
        }
        int picked = holds.copyOf[hold];
        holds.stateOf[hold] = DONE;
        untie(picked, hold);
        copies.stateOf[picked] = COPY_OUT;
        return picked;
    }

    public int lend(int copy) {
        if (!copies.isIn(copy, COPY_FREE)) {
            return 0;
        }
        copies.stateOf[copy] = COPY_OUT;
        return 1;
    }

    public int cancel(int hold) {
        if (!holds.isOpen(hold)) {
            return 0;
        }
        boolean lay = holds.isIn(hold, READY);
        holds.stateOf[hold] = CANCELLED;
        // A copy on its way stays tied to the cancelled hold: only arrive looks for another.
        if (lay) {
            letGo(hold);
        }
        return 1;
    }

    public int tick(long day) {
        if (day <= today || day > LAST_DAY) {
            return NONE;
        }
        today = day;
        int expired = 0;
        // What becomes READY in this loop ends after today, so it can't expire in it.
        for (int hold = 1; hold <= holds.count; hold++) {
            if (holds.isIn(hold, READY) && holds.endOf[hold] < today) {
                holds.stateOf[hold] = EXPIRED;
                letGo(hold);
                expired++;
            }
        }
        return expired;
    }

    public int span(int days) {
        if (days < 1 || days > LONGEST_SPAN) {
            return NONE;
        }
        int before = spanDays;
        spanDays = days;
        return before;
    }

    public int rank(int hold, int r) {
        if (!holds.isIn(hold, WAITING)) {
            return NONE;
        }
        holds.rankOf[hold] = r;
        return holds.placeInQueue(hold);
    }

    public int order(int record, int i) {
        return isRecord(record) ? holds.atPlaceInQueue(record, i) : 0;
    }

    public int state(int hold, int what) {
        if (!holds.has(hold)) {
            return NONE;
        }
        switch (what) {
            case 0:
                return holds.stateOf[hold];
            case 1:
                return holds.copyOf[hold];
            case 2:
                return holds.isIn(hold, WAITING) ? holds.placeInQueue(hold) : NONE;
            default:
                return NONE;
        }
    }

    public int where(int copy, int what) {
        if (!copies.has(copy)) {
            return NONE;
        }
        switch (what) {
            case 0:
                return copies.stateOf[copy];
            case 1:
                return copies.placeOf[copy];
            case 2:
                return copies.holdOf[copy];
            default:
                return NONE;
        }
    }

    private static boolean isKind(int kind) {
        return kind >= 0 && kind < KINDS;
    }

    private static boolean isPerson(int person) {
        return person >= 0 && person < PERSONS;
    }

    private static boolean isPlace(int place) {
        return place >= 0 && place < PLACES;
    }

    private boolean isRecord(int record) {
        return record >= 1 && record <= recordCount;
    }

    /** Traps a copy that is free to go for the first hold that fits: that hold, or 0. */
    private int settle(int copy) {
        int found = holds.firstFitting(copies.recordOf[copy], today);
        if (found == 0) {
            copies.stateOf[copy] = COPY_FREE;
            return 0;
        }
        copies.holdOf[copy] = found;
        holds.copyOf[found] = copy;
        if (copies.placeOf[copy] == holds.placeOf[found]) {
            layReady(copy, found);
        } else {
            send(copy, found);
        }
        return found;
    }

    private void layReady(int copy, int hold) {
        copies.stateOf[copy] = COPY_READY;
        holds.stateOf[hold] = READY;
        holds.endOf[hold] = today + spanDays;
    }

    private void send(int copy, int hold) {
        copies.stateOf[copy] = COPY_ON_ITS_WAY;
        // On its way, a copy's place is the one where it goes.
        copies.placeOf[copy] = holds.placeOf[hold];
        holds.stateOf[hold] = IN_TRANSIT;
    }

    private void untie(int copy, int hold) {
        copies.holdOf[copy] = 0;
        holds.copyOf[hold] = 0;
    }

    /** The copy that lay ready for a hold is free to go. */
    private void letGo(int hold) {
        int lying = holds.copyOf[hold];
        untie(lying, hold);
        settle(lying);
    }

    /** The copies by number, a row of each table for each. */
    private static final class Copies {
        private int count = 0;
        private final int[] recordOf = new int[MOST_COPIES + 1];
        private final int[] placeOf = new int[MOST_COPIES + 1];
        private final int[] stateOf = new int[MOST_COPIES + 1];
        private final int[] holdOf = new int[MOST_COPIES + 1];

        private boolean has(int copy) {
            return copy >= 1 && copy <= count;
        }

        private boolean isIn(int copy, int wanted) {
            return has(copy) && stateOf[copy] == wanted;
        }

        private boolean areFull() {
            return count >= MOST_COPIES;
        }

        private int add(int record, int place) {
            count++;
            recordOf[count] = record;
            placeOf[count] = place;
            stateOf[count] = COPY_OUT;
            return count;
        }

        private int leastFree(int record) {
            for (int copy = 1; copy <= count; copy++) {
                if (recordOf[copy] == record && stateOf[copy] == COPY_FREE) {
                    return copy;
                }
            }
            return 0;
        }
    }

    /** The holds by number, a row of each table for each, and the queues that they make. */
    private static final class Holds {
        private int count = 0;
        private final int[] personOf = new int[MOST_HOLDS + 1];
        private final int[] recordOf = new int[MOST_HOLDS + 1];
        private final int[] placeOf = new int[MOST_HOLDS + 1];
        private final int[] rankOf = new int[MOST_HOLDS + 1];
        private final int[] stateOf = new int[MOST_HOLDS + 1];
        private final int[] copyOf = new int[MOST_HOLDS + 1];
        // 0 is never above THE DAY, so a new row is not suspended.
        private final long[] suspendedUntil = new long[MOST_HOLDS + 1];
        private final long[] endOf = new long[MOST_HOLDS + 1];

        private boolean has(int hold) {
            return hold >= 1 && hold <= count;
        }

        private boolean isIn(int hold, int wanted) {
            return has(hold) && stateOf[hold] == wanted;
        }

        private boolean isOpen(int hold) {
            return isIn(hold, WAITING) || isIn(hold, IN_TRANSIT) || isIn(hold, READY);
        }

        private boolean areFull() {
            return count >= MOST_HOLDS;
        }

        private int add(int person, int record, int place, int rank) {
            count++;
            personOf[count] = person;
            recordOf[count] = record;
            placeOf[count] = place;
            rankOf[count] = rank;
            stateOf[count] = WAITING;
            return count;
        }

        private int countOpen(int person) {
            int open = 0;
            for (int hold = 1; hold <= count; hold++) {
                if (personOf[hold] == person && isOpen(hold)) {
                    open++;
                }
            }
            return open;
        }

        private boolean hasOpen(int person, int record) {
            for (int hold = 1; hold <= count; hold++) {
                if (personOf[hold] == person && recordOf[hold] == record && isOpen(hold)) {
                    return true;
                }
            }
            return false;
        }

        private boolean isQueued(int hold, int record) {
            return recordOf[hold] == record && stateOf[hold] == WAITING;
        }

        private boolean comesBefore(int hold, int other) {
            return rankOf[hold] < rankOf[other] || (rankOf[hold] == rankOf[other] && hold < other);
        }

        private int firstFitting(int record, long day) {
            int first = 0;
            for (int hold = 1; hold <= count; hold++) {
                if (isQueued(hold, record) && suspendedUntil[hold] <= day
                        && (first == 0 || comesBefore(hold, first))) {
                    first = hold;
                }
            }
            return first;
        }

        private int placeInQueue(int hold) {
            int before = 0;
            for (int other = 1; other <= count; other++) {
                if (isQueued(other, recordOf[hold]) && comesBefore(other, hold)) {
                    before++;
                }
            }
            return before;
        }

        private int atPlaceInQueue(int record, int place) {
            for (int hold = 1; hold <= count; hold++) {
                if (isQueued(hold, record) && placeInQueue(hold) == place) {
                    return hold;
                }
            }
            return 0;
        }
    }
}
