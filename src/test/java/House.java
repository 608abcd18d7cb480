/** A HoldQueue with its calls counted, since nothing is promised after the 512th, and what was made in it. */
final class House {
    static final int MOST_CALLS = 512;

    private final HoldQueue queue = new HoldQueue();
    private int calls = 0;
    private int records = 0;
    private int copies = 0;
    private int holds = 0;
    private long day = 0;

    private HoldQueue counted() {
        if (!hasCallsLeft()) {
            throw new IllegalStateException("this test makes more calls than the document promises");
        }
        calls++;
        return queue;
    }

    boolean hasCallsLeft() {
        return calls < MOST_CALLS;
    }

    int calls() {
        return calls;
    }

    int records() {
        return records;
    }

    int copies() {
        return copies;
    }

    int holds() {
        return holds;
    }

    long day() {
        return day;
    }

    int record(int kind) {
        int made = counted().record(kind);
        records = Math.max(records, made);
        return made;
    }

    int copy(int record, int place) {
        int made = counted().copy(record, place);
        copies = Math.max(copies, made);
        return made;
    }

    int hold(int person, int record, int place, int rank) {
        int made = counted().hold(person, record, place, rank);
        holds = Math.max(holds, made);
        return made;
    }

    int tick(long to) {
        int expired = counted().tick(to);
        if (expired >= 0) {
            day = to;
        }
        return expired;
    }

    boolean bar(int kind, boolean on) {
        return counted().bar(kind, on);
    }

    int most(int person, int n) {
        return counted().most(person, n);
    }

    int suspend(int hold, long until) {
        return counted().suspend(hold, until);
    }

    int back(int copy, int place) {
        return counted().back(copy, place);
    }

    int arrive(int copy) {
        return counted().arrive(copy);
    }

    int pick(int hold) {
        return counted().pick(hold);
    }

    int lend(int copy) {
        return counted().lend(copy);
    }

    int cancel(int hold) {
        return counted().cancel(hold);
    }

    int span(int days) {
        return counted().span(days);
    }

    int rank(int hold, int r) {
        return counted().rank(hold, r);
    }

    int order(int record, int i) {
        return counted().order(record, i);
    }

    int state(int hold, int what) {
        return counted().state(hold, what);
    }

    int where(int copy, int what) {
        return counted().where(copy, what);
    }
}
