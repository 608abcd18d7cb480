import java.util.List;
import java.util.function.Supplier;
import java.util.function.ToLongFunction;

/**
 * Each call that the document refuses, in a house that has nothing, one that has something of each state, and a
 * full one: it answers what is due, and the house is as if it had not been made. So do calls that only look.
 */
public final class RefusalTest {
    private static final int LEAST = Integer.MIN_VALUE;
    private static final int GREATEST = Integer.MAX_VALUE;
    private static final int NONE = HoldQueue.NONE;

    private static final int[] NO_KINDS = {-1, 4, LEAST, GREATEST};
    private static final int[] NO_PERSONS = {-1, 40, LEAST, GREATEST};
    private static final int[] NO_PLACES = {-1, 6, LEAST, GREATEST};
    private static final int[] NO_MOSTS = {-1, 21, LEAST, GREATEST};
    private static final int[] NO_SPANS = {-1, 0, 100, LEAST, GREATEST};
    private static final int[] NO_WHATS = {-1, 3, LEAST, GREATEST};
    private static final int[] NO_RECORDS = {-1, 0, Scenes.LAST_BUSY_RECORD + 1, 30, 31, LEAST, GREATEST};
    private static final int[] NO_COPIES = {-1, 0, Scenes.LAST_BUSY_COPY + 1, 60, 61, LEAST, GREATEST};
    private static final int[] NO_HOLDS = {-1, 0, Scenes.LAST_BUSY_HOLD + 1, 120, 121, LEAST, GREATEST};
    private static final int[] NOT_WAITING = {Scenes.DONE_HOLD, Scenes.EXPIRED_HOLD, Scenes.CANCELLED_HOLD,
        Scenes.IN_TRANSIT_HOLD, Scenes.READY_HOLD, Scenes.CANCELLED_ON_THE_WAY};
    private static final int[] ENDED = {Scenes.DONE_HOLD, Scenes.EXPIRED_HOLD, Scenes.CANCELLED_HOLD,
        Scenes.CANCELLED_ON_THE_WAY};
    private static final int[] RANKS = {LEAST, 0, GREATEST};
    private static final long[] DAYS = {Long.MIN_VALUE, -1, 0, Scenes.BUSY_DAY, 1000000001L, Long.MAX_VALUE};

    private static final Checks CHECKS = new Checks("RefusalTest");

    public static void main(String[] args) {
        scenesAreAsTold();
        newHouseHasNothing();
        record();
        copy();
        bar();
        holdOfNoSuch();
        holdOfABarredKind();
        holdOnARecordAgain();
        holdOfTooMany();
        most();
        suspend();
        back();
        arrive();
        pick();
        lend();
        cancel();
        tick();
        span();
        rank();
        order();
        state();
        where();
        fullHouse();
        looksChangeNothing();
        CHECKS.end();
    }

    /** The call answers what is due, and its house tells then what a twin without the call tells. */
    private static void refused(Supplier<House> scene, String call, ToLongFunction<House> made, long answer) {
        House touched = scene.get();
        CHECKS.due(call, made.applyAsLong(touched), answer);
        House twin = scene.get();
        // A look in the place of the call, so that both have as many calls left.
        twin.order(0, 0);
        List<String> told = Telling.of(touched);
        List<String> due = Telling.of(twin);
        CHECKS.due(call + " tells as much", told.size(), due.size());
        for (int n = 0; n < Math.min(told.size(), due.size()); n++) {
            if (!told.get(n).equals(due.get(n))) {
                CHECKS.due(call + " changed " + due.get(n) + " to " + told.get(n), true, false);
                return;
            }
        }
    }

    private static void busy(String call, ToLongFunction<House> made, long answer) {
        refused(Scenes::busy, call, made, answer);
    }

    private static void scenesAreAsTold() {
        House house = Scenes.busy();
        for (int hold = 1; hold <= Scenes.LAST_BUSY_HOLD; hold++) {
            CHECKS.due("busy: state of hold " + hold, house.state(hold, 0), Scenes.BUSY_STATES[hold - 1]);
        }
        for (int copy = 1; copy <= Scenes.LAST_BUSY_COPY; copy++) {
            int due = Scenes.BUSY_STATES_OF_COPIES[copy - 1];
            CHECKS.due("busy: where copy " + copy + " is", house.where(copy, 0), due);
        }
        CHECKS.due("busy: records", house.records(), Scenes.LAST_BUSY_RECORD);
        CHECKS.due("busy: holds", house.holds(), Scenes.LAST_BUSY_HOLD);
        House full = Scenes.full();
        CHECKS.due("full: records", full.records(), 30);
        CHECKS.due("full: copies", full.copies(), 60);
        CHECKS.due("full: holds", full.holds(), 120);
        CHECKS.due("full: copy 1 is FREE", full.where(1, 0), 0);
        CHECKS.due("full: a person may have more", full.most(39, 20), 20);
    }

    private static void newHouseHasNothing() {
        for (int n : new int[] {LEAST, -1, 0, 1, 2, 30, 60, 120, GREATEST}) {
            refused(House::new, "new: copy(" + n + ", 0)", h -> h.copy(n, 0), 0);
            refused(House::new, "new: hold(0, " + n + ", 0, 0)", h -> h.hold(0, n, 0, 0), 0);
            refused(House::new, "new: suspend(" + n + ", 5)", h -> h.suspend(n, 5), 0);
            refused(House::new, "new: back(" + n + ", 0)", h -> h.back(n, 0), NONE);
            refused(House::new, "new: arrive(" + n + ")", h -> h.arrive(n), NONE);
            refused(House::new, "new: pick(" + n + ")", h -> h.pick(n), 0);
            refused(House::new, "new: lend(" + n + ")", h -> h.lend(n), 0);
            refused(House::new, "new: cancel(" + n + ")", h -> h.cancel(n), 0);
            refused(House::new, "new: rank(" + n + ", 0)", h -> h.rank(n, 0), NONE);
            refused(House::new, "new: order(" + n + ", 0)", h -> h.order(n, 0), 0);
            for (int what = 0; what <= 2; what++) {
                int asked = what;
                refused(House::new, "new: state(" + n + ", " + what + ")", h -> h.state(n, asked), NONE);
                refused(House::new, "new: where(" + n + ", " + what + ")", h -> h.where(n, asked), NONE);
            }
        }
        refused(House::new, "new: tick(0)", h -> h.tick(0), NONE);
    }

    private static void record() {
        for (int kind : NO_KINDS) {
            busy("record(" + kind + ")", h -> h.record(kind), 0);
        }
    }

    private static void copy() {
        for (int record : NO_RECORDS) {
            busy("copy(" + record + ", 0)", h -> h.copy(record, 0), 0);
        }
        for (int place : NO_PLACES) {
            busy("copy(1, " + place + ")", h -> h.copy(1, place), 0);
        }
    }

    private static void bar() {
        for (int kind : NO_KINDS) {
            busy("bar(" + kind + ", true)", h -> h.bar(kind, true) ? 1 : 0, 0);
            busy("bar(" + kind + ", false)", h -> h.bar(kind, false) ? 1 : 0, 0);
        }
    }

    /** Record 2 has a FREE copy and a hold that fits it: a hold that does not come does not trap it. */
    private static void holdOfNoSuch() {
        for (int person : NO_PERSONS) {
            busy("hold(" + person + ", 2, 0, 0)", h -> h.hold(person, 2, 0, 0), 0);
        }
        for (int record : NO_RECORDS) {
            busy("hold(20, " + record + ", 0, 0)", h -> h.hold(20, record, 0, 0), 0);
        }
        for (int place : NO_PLACES) {
            busy("hold(20, 2, " + place + ", 0)", h -> h.hold(20, 2, place, 0), 0);
        }
    }

    private static void holdOfABarredKind() {
        for (int rank : RANKS) {
            busy("hold of the barred kind, rank " + rank, h -> h.hold(20, 4, 0, rank), 0);
        }
    }

    private static void holdOnARecordAgain() {
        busy("hold again while IN TRANSIT", h -> h.hold(3, 1, 0, LEAST), 0);
        busy("hold again while READY", h -> h.hold(4, 1, 0, LEAST), 0);
        busy("hold again while WAITING", h -> h.hold(6, 1, 0, LEAST), 0);
        busy("hold again while SUSPENDED", h -> h.hold(9, 1, 0, LEAST), 0);
        busy("hold again while WAITING beside a FREE copy", h -> h.hold(10, 2, 5, LEAST), 0);
    }

    private static void holdOfTooMany() {
        busy("hold of too many beside a FREE copy", h -> h.hold(Scenes.AT_ITS_LIMIT, 2, 0, LEAST), -1);
        busy("hold of too many without a copy", h -> h.hold(Scenes.AT_ITS_LIMIT, 5, 0, 0), -1);
    }

    private static void most() {
        for (int person : NO_PERSONS) {
            busy("most(" + person + ", 0)", h -> h.most(person, 0), NONE);
            busy("most(" + person + ", 20)", h -> h.most(person, 20), NONE);
        }
        for (int n : NO_MOSTS) {
            busy("most(0, " + n + ")", h -> h.most(0, n), NONE);
            busy("most(39, " + n + ")", h -> h.most(39, n), NONE);
            busy("most(-1, " + n + ")", h -> h.most(-1, n), NONE);
        }
    }

    private static void suspend() {
        for (long until : DAYS) {
            for (int hold : NO_HOLDS) {
                busy("suspend(" + hold + ", " + until + ")", h -> h.suspend(hold, until), 0);
            }
            for (int hold : NOT_WAITING) {
                busy("suspend(" + hold + ", " + until + ")", h -> h.suspend(hold, until), 0);
            }
        }
    }

    private static void back() {
        for (int copy : NO_COPIES) {
            busy("back(" + copy + ", 0)", h -> h.back(copy, 0), NONE);
        }
        for (int place : NO_PLACES) {
            busy("back(OUT, " + place + ")", h -> h.back(Scenes.OUT_COPY, place), NONE);
            busy("back(FREE, " + place + ")", h -> h.back(Scenes.FREE_COPY, place), NONE);
        }
        for (int place = 0; place <= 5; place++) {
            int at = place;
            busy("back(FREE, " + place + ")", h -> h.back(Scenes.FREE_COPY, at), NONE);
            busy("back(on its way, " + place + ")", h -> h.back(Scenes.COPY_FOR_TRANSIT, at), NONE);
            busy("back(going on, " + place + ")", h -> h.back(Scenes.COPY_GOING_ON, at), NONE);
            busy("back(ready, " + place + ")", h -> h.back(Scenes.READY_COPY, at), NONE);
        }
    }

    private static void arrive() {
        for (int copy : NO_COPIES) {
            busy("arrive(" + copy + ")", h -> h.arrive(copy), NONE);
        }
        busy("arrive(OUT)", h -> h.arrive(Scenes.OUT_COPY), NONE);
        busy("arrive(FREE)", h -> h.arrive(Scenes.FREE_COPY), NONE);
        busy("arrive(ready)", h -> h.arrive(Scenes.READY_COPY), NONE);
    }

    private static void pick() {
        for (int hold : NO_HOLDS) {
            busy("pick(" + hold + ")", h -> h.pick(hold), 0);
        }
        for (int hold : ENDED) {
            busy("pick(" + hold + ")", h -> h.pick(hold), 0);
        }
        busy("pick(IN TRANSIT)", h -> h.pick(Scenes.IN_TRANSIT_HOLD), 0);
        for (int hold = Scenes.FIRST_WAITING; hold <= Scenes.LAST_BUSY_HOLD; hold++) {
            int waiting = hold;
            busy("pick(" + hold + ")", h -> h.pick(waiting), 0);
        }
    }

    private static void lend() {
        for (int copy : NO_COPIES) {
            busy("lend(" + copy + ")", h -> h.lend(copy), 0);
        }
        busy("lend(OUT)", h -> h.lend(Scenes.OUT_COPY), 0);
        busy("lend(on its way)", h -> h.lend(Scenes.COPY_FOR_TRANSIT), 0);
        busy("lend(going on)", h -> h.lend(Scenes.COPY_GOING_ON), 0);
        busy("lend(ready)", h -> h.lend(Scenes.READY_COPY), 0);
    }

    private static void cancel() {
        for (int hold : NO_HOLDS) {
            busy("cancel(" + hold + ")", h -> h.cancel(hold), 0);
        }
        for (int hold : ENDED) {
            busy("cancel(" + hold + ")", h -> h.cancel(hold), 0);
        }
    }

    private static void tick() {
        long nextButFor32Bits = (1L << 32) + Scenes.BUSY_DAY + 1;
        for (long day : new long[] {Long.MIN_VALUE, -1000000000L, -1, 0, 1, Scenes.BUSY_DAY - 1, Scenes.BUSY_DAY,
            1000000001L, nextButFor32Bits, Long.MAX_VALUE}) {
            busy("tick(" + day + ")", h -> h.tick(day), NONE);
        }
    }

    private static void span() {
        for (int days : NO_SPANS) {
            busy("span(" + days + ")", h -> h.span(days), NONE);
        }
    }

    private static void rank() {
        for (int rank : RANKS) {
            for (int hold : NO_HOLDS) {
                busy("rank(" + hold + ", " + rank + ")", h -> h.rank(hold, rank), NONE);
            }
            for (int hold : NOT_WAITING) {
                busy("rank(" + hold + ", " + rank + ")", h -> h.rank(hold, rank), NONE);
            }
        }
    }

    private static void order() {
        for (int record : NO_RECORDS) {
            busy("order(" + record + ", 0)", h -> h.order(record, 0), 0);
        }
        for (int i : new int[] {LEAST, -1, 4, 5, 120, GREATEST}) {
            busy("order(1, " + i + ")", h -> h.order(1, i), 0);
        }
        busy("order of an empty queue", h -> h.order(Scenes.LAST_BUSY_RECORD, 0), 0);
    }

    private static void state() {
        for (int what = -1; what <= 3; what++) {
            int asked = what;
            for (int hold : NO_HOLDS) {
                busy("state(" + hold + ", " + what + ")", h -> h.state(hold, asked), NONE);
            }
        }
        for (int what : NO_WHATS) {
            for (int hold = 1; hold <= Scenes.FIRST_WAITING; hold++) {
                int there = hold;
                busy("state(" + hold + ", " + what + ")", h -> h.state(there, what), NONE);
            }
        }
    }

    private static void where() {
        for (int what = -1; what <= 3; what++) {
            int asked = what;
            for (int copy : NO_COPIES) {
                busy("where(" + copy + ", " + what + ")", h -> h.where(copy, asked), NONE);
            }
        }
        for (int what : NO_WHATS) {
            for (int copy = 1; copy <= Scenes.FREE_COPY; copy++) {
                int there = copy;
                busy("where(" + copy + ", " + what + ")", h -> h.where(there, what), NONE);
            }
        }
    }

    private static void fullHouse() {
        for (int kind = 0; kind <= 3; kind++) {
            int asked = kind;
            refused(Scenes::full, "full: record(" + kind + ")", h -> h.record(asked), 0);
        }
        for (int record : new int[] {1, 30, 31}) {
            refused(Scenes::full, "full: copy(" + record + ", 0)", h -> h.copy(record, 0), 0);
            refused(Scenes::full, "full: hold(39, " + record + ", 0, 0)", h -> h.hold(39, record, 0, LEAST), 0);
        }
        refused(Scenes::full, "full: hold of too many", h -> h.hold(20, 1, 0, LEAST), 0);
        refused(Scenes::full, "full: suspend(121, 9)", h -> h.suspend(121, 9), 0);
        refused(Scenes::full, "full: back(61, 0)", h -> h.back(61, 0), NONE);
        refused(Scenes::full, "full: arrive(61)", h -> h.arrive(61), NONE);
        refused(Scenes::full, "full: pick(121)", h -> h.pick(121), 0);
        refused(Scenes::full, "full: lend(61)", h -> h.lend(61), 0);
        refused(Scenes::full, "full: cancel(121)", h -> h.cancel(121), 0);
        refused(Scenes::full, "full: rank(121, 0)", h -> h.rank(121, 0), NONE);
        refused(Scenes::full, "full: order(31, 0)", h -> h.order(31, 0), 0);
        refused(Scenes::full, "full: state(121, 0)", h -> h.state(121, 0), NONE);
        refused(Scenes::full, "full: where(61, 0)", h -> h.where(61, 0), NONE);
    }

    private static void looksChangeNothing() {
        for (int i = 0; i < 4; i++) {
            int asked = i;
            busy("order(1, " + i + ")", h -> h.order(1, asked), Scenes.BUSY_QUEUE[i]);
        }
        for (int hold = 1; hold <= Scenes.LAST_BUSY_HOLD; hold++) {
            int there = hold;
            busy("state(" + hold + ", 0)", h -> h.state(there, 0), Scenes.BUSY_STATES[hold - 1]);
        }
        for (int copy = 1; copy <= Scenes.LAST_BUSY_COPY; copy++) {
            int there = copy;
            busy("where(" + copy + ", 0)", h -> h.where(there, 0), Scenes.BUSY_STATES_OF_COPIES[copy - 1]);
        }
    }
}
