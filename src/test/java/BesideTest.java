import java.util.ArrayList;
import java.util.List;
import java.util.function.ToLongFunction;

/**
 * Each call changes what it tells of, and nothing beside it: two records have the same things, a call is made at
 * the second, and the first is looked at. Each look has a house of its own, so that no look hides another.
 */
public final class BesideTest {
    private static final int NONE = HoldQueue.NONE;
    private static final int SPAN = 5;
    private static final long EARLY_DAY = 9;
    private static final long DAY = 10;
    // The holds become READY on the early day, so that an END that is reckoned anew is another one.
    private static final long END = EARLY_DAY + SPAN;
    private static final long SUSPENDED_UNTIL = 12;
    private static final int BARRED = 2;
    private static final int AT_ITS_LIMIT = 30;
    private static final String THE_DAY = "the day after is later";
    private static final String THE_SPAN = "the span";

    private static final Checks CHECKS = new Checks("BesideTest");

    /** A call or a look: what it is called, how it is made, what it answers, the one look that it may change. */
    private record Row(String name, ToLongFunction<Scene> made, long answer, String changes) {
    }

    public static void main(String[] args) {
        List<Row> looks = looks();
        for (Row look : looks) {
            CHECKS.due("before any call, " + look.name, look.made.applyAsLong(new Scene()), look.answer);
        }
        for (Row call : calls()) {
            for (Row look : looks) {
                if (!look.name.equals(call.changes)) {
                    Scene scene = new Scene();
                    CHECKS.due(call.name, call.made.applyAsLong(scene), call.answer);
                    CHECKS.due("after " + call.name + ", " + look.name, look.made.applyAsLong(scene), look.answer);
                }
            }
        }
        CHECKS.end();
    }

    private static List<Row> calls() {
        List<Row> calls = new ArrayList<>();
        callsForMore(calls);
        callsAtCopies(calls);
        callsAtHolds(calls);
        callsForTheHouse(calls);
        callsThatLook(calls);
        return calls;
    }

    private static void add(List<Row> rows, String name, ToLongFunction<Scene> made, long answer) {
        rows.add(new Row(name, made, answer, ""));
    }

    private static void callsForMore(List<Row> calls) {
        add(calls, "record", s -> s.house.record(0), 4);
        add(calls, "record that is refused", s -> s.house.record(4), 0);
        add(calls, "copy", s -> s.house.copy(2, 0), 11);
        add(calls, "copy that is refused", s -> s.house.copy(2, 6), 0);
        add(calls, "hold", s -> s.house.hold(20, 2, 0, Integer.MIN_VALUE), 20);
        add(calls, "hold that traps no copy", s -> s.house.hold(10, s.house.record(0), 0, 0), 20);
        add(calls, "hold that is refused", s -> s.house.hold(20, 2, 6, 0), 0);
        add(calls, "hold of too many", s -> s.house.hold(AT_ITS_LIMIT, 2, 0, 0), -1);
    }

    private static void callsAtCopies(List<Row> calls) {
        add(calls, "back", s -> s.house.back(s.second.out, 0), 17);
        add(calls, "back that is refused", s -> s.house.back(s.second.free, 0), NONE);
        add(calls, "arrive", s -> s.house.arrive(s.second.onItsWay), 1);
        add(calls, "arrive for a cancelled hold", s -> s.house.arrive(s.second.goingOn), 0);
        add(calls, "arrive that is refused", s -> s.house.arrive(s.second.out), NONE);
        add(calls, "lend", s -> s.house.lend(s.second.free), 1);
        add(calls, "lend that is refused", s -> s.house.lend(s.second.out), 0);
    }

    private static void callsAtHolds(List<Row> calls) {
        add(calls, "pick", s -> s.house.pick(s.second.ready), 7);
        add(calls, "pick that is refused", s -> s.house.pick(s.second.inTransit), 0);
        add(calls, "cancel of WAITING", s -> s.house.cancel(s.second.waiting), 1);
        add(calls, "cancel of SUSPENDED", s -> s.house.cancel(s.second.suspended), 1);
        add(calls, "cancel of IN TRANSIT", s -> s.house.cancel(s.second.inTransit), 1);
        add(calls, "cancel of READY", s -> s.house.cancel(s.second.ready), 1);
        add(calls, "cancel that is refused", s -> s.house.cancel(s.second.done), 0);
        add(calls, "suspend", s -> s.house.suspend(s.second.waiting, 30), 1);
        add(calls, "suspend no more", s -> s.house.suspend(s.second.suspended, 0), 1);
        add(calls, "suspend that is refused", s -> s.house.suspend(s.second.ready, 30), 0);
        add(calls, "rank", s -> s.house.rank(s.second.waiting, 9), 2);
        add(calls, "rank of SUSPENDED", s -> s.house.rank(s.second.suspended, 5), 1);
        add(calls, "rank that is refused", s -> s.house.rank(s.second.ready, 9), NONE);
    }

    private static void callsForTheHouse(List<Row> calls) {
        add(calls, "bar", s -> s.house.bar(1, true) ? 1 : 0, 0);
        add(calls, "bar no more", s -> s.house.bar(1, false) ? 1 : 0, 0);
        add(calls, "bar that is refused", s -> s.house.bar(4, true) ? 1 : 0, 0);
        add(calls, "most", s -> s.house.most(20, 0), 3);
        add(calls, "most that is refused", s -> s.house.most(20, 21), NONE);
        calls.add(new Row("span", s -> s.house.span(9), SPAN, THE_SPAN));
        add(calls, "span that is refused", s -> s.house.span(100), NONE);
        calls.add(new Row("tick", s -> s.house.tick(DAY + 1), 0, THE_DAY));
        add(calls, "tick that is refused", s -> s.house.tick(DAY), NONE);
    }

    private static void callsThatLook(List<Row> calls) {
        add(calls, "order", s -> s.house.order(2, 0), 16);
        add(calls, "order of what is looked at", s -> s.house.order(1, 1), 10);
        add(calls, "order of none", s -> s.house.order(2, 3), 0);
        for (int what = 0; what <= 3; what++) {
            int asked = what;
            int ofHold = new int[] {2, 7, NONE, NONE}[what];
            int ofCopy = new int[] {3, 2, 14, NONE}[what];
            add(calls, "state " + what, s -> s.house.state(s.second.ready, asked), ofHold);
            add(calls, "where " + what, s -> s.house.where(s.second.lying, asked), ofCopy);
        }
    }

    private static List<Row> looks() {
        List<Row> looks = new ArrayList<>();
        looksAtTheHouse(looks);
        looksAtDays(looks);
        looksAtHolds(looks);
        looksAtCopies(looks);
        looksThatGoOn(looks);
        return looks;
    }

    private static void looksAtTheHouse(List<Row> looks) {
        add(looks, "the day is not later", s -> s.house.tick(DAY), NONE);
        add(looks, THE_DAY, s -> s.house.tick(DAY + 1), 0);
        add(looks, THE_SPAN, s -> s.house.span(7), SPAN);
        add(looks, "the kind barred", s -> s.house.bar(BARRED, false) ? 1 : 0, 1);
        add(looks, "a kind not barred", s -> s.house.bar(0, true) ? 1 : 0, 0);
        add(looks, "the last kind", s -> s.house.bar(3, true) ? 1 : 0, 0);
        add(looks, "a hold of the kind barred", s -> s.house.hold(20, 3, 0, 0), 0);
        add(looks, "most of one that may have less", s -> s.house.most(AT_ITS_LIMIT, 3), 1);
        add(looks, "most of the first", s -> s.house.most(0, 0), 3);
        add(looks, "most of the last", s -> s.house.most(39, 0), 3);
        add(looks, "a hold of one at its limit", s -> s.house.hold(AT_ITS_LIMIT, 1, 0, 0), -1);
    }

    private static void looksAtDays(List<Row> looks) {
        add(looks, "it is suspended", s -> s.house.back(s.first.out, 0), 10);
        add(looks, "it is suspended until its day", s -> {
            s.house.tick(SUSPENDED_UNTIL - 1);
            return s.house.back(s.first.out, 0);
        }, 10);
        add(looks, "it is suspended no more on its day", s -> {
            s.house.tick(SUSPENDED_UNTIL);
            return s.house.back(s.first.out, 0);
        }, 9);
        add(looks, "it is ready until its end", s -> {
            s.house.tick(END);
            return s.house.state(s.first.ready, 0);
        }, 2);
        add(looks, "it expires after its end", s -> {
            s.house.tick(END + 1);
            return s.house.state(s.first.ready, 0);
        }, 4);
    }

    private static void looksAtHolds(List<Row> looks) {
        int[] holds = {1, 2, 5, 6, 7, 8, 9, 10, 11};
        int[] states = {3, 4, 5, 1, 2, 5, 0, 0, 0};
        int[] copies = {0, 0, 0, 1, 2, 3, 0, 0, 0};
        int[] queued = {NONE, NONE, NONE, NONE, NONE, NONE, 0, 1, 2};
        for (int n = 0; n < holds.length; n++) {
            int hold = holds[n];
            add(looks, "state(" + hold + ", 0)", s -> s.house.state(hold, 0), states[n]);
            add(looks, "state(" + hold + ", 1)", s -> s.house.state(hold, 1), copies[n]);
            add(looks, "state(" + hold + ", 2)", s -> s.house.state(hold, 2), queued[n]);
        }
        for (int i = 0; i <= 3; i++) {
            int asked = i;
            add(looks, "order(1, " + i + ")", s -> s.house.order(1, asked), new int[] {9, 10, 11, 0}[i]);
        }
    }

    private static void looksAtCopies(List<Row> looks) {
        int[] lies = {2, 3, 2, 1, 0};
        int[] places = {1, 2, 3, 0, 5};
        int[] holds = {6, 7, 8, 0, 0};
        for (int n = 0; n < lies.length; n++) {
            int copy = n + 1;
            add(looks, "where(" + copy + ", 0)", s -> s.house.where(copy, 0), lies[n]);
            add(looks, "where(" + copy + ", 1)", s -> s.house.where(copy, 1), places[n]);
            add(looks, "where(" + copy + ", 2)", s -> s.house.where(copy, 2), holds[n]);
        }
    }

    private static void looksThatGoOn(List<Row> looks) {
        add(looks, "it arrives", s -> s.house.arrive(s.first.onItsWay), 1);
        add(looks, "it arrives for a cancelled hold", s -> s.house.arrive(s.first.goingOn), 0);
        add(looks, "it is picked up", s -> s.house.pick(s.first.ready), 2);
        add(looks, "it is lent", s -> s.house.lend(s.first.free), 1);
        add(looks, "it is cancelled", s -> s.house.cancel(s.first.suspended), 1);
        add(looks, "its rank", s -> s.house.rank(s.first.waiting, 8), 1);
        add(looks, "the same person on the record", s -> s.house.hold(6, 1, 0, 0), 0);
    }

    /** What a record has: holds and copies in each state. */
    private static final class Stock {
        private final int record;
        private final int firstPerson;
        private final int onItsWay;
        private final int lying;
        private final int goingOn;
        private final int out;
        private final int free;
        private int done;
        private int ready;
        private int inTransit;
        private int suspended;
        private int waiting;

        private Stock(House house, int record, int firstPerson) {
            this.record = record;
            this.firstPerson = firstPerson;
            this.onItsWay = house.copy(record, 0);
            this.lying = house.copy(record, 0);
            this.goingOn = house.copy(record, 0);
            this.out = house.copy(record, 0);
            this.free = house.copy(record, 0);
        }

        /** One that is DONE and one that expires by the early day. */
        private void makeEarlyHolds(House house) {
            done = house.hold(firstPerson, record, 0, 0);
            house.back(onItsWay, 0);
            house.pick(done);
            house.hold(firstPerson + 1, record, 0, 0);
            house.back(onItsWay, 0);
        }

        private void makeHolds(House house) {
            house.cancel(house.hold(firstPerson + 2, record, 0, 0));
            inTransit = house.hold(firstPerson + 3, record, 1, 0);
            ready = house.hold(firstPerson + 4, record, 2, 0);
            house.back(lying, 2);
            int cancelledOnTheWay = house.hold(firstPerson + 5, record, 3, 0);
            house.back(goingOn, 0);
            house.cancel(cancelledOnTheWay);
        }

        /** A FREE copy beside two holds that fit it by now, and one that is SUSPENDED before them. */
        private void makeQueue(House house) {
            suspended = house.hold(firstPerson + 6, record, 4, -5);
            waiting = house.hold(firstPerson + 7, record, 4, 3);
            int last = house.hold(firstPerson + 8, record, 0, 8);
            house.suspend(suspended, SUSPENDED_UNTIL);
            house.suspend(waiting, SUSPENDED_UNTIL);
            house.suspend(last, SUSPENDED_UNTIL);
            house.back(free, 5);
            house.suspend(waiting, 0);
            house.suspend(last, 0);
        }
    }

    private static final class Scene {
        private final House house = new House();
        private final Stock first;
        private final Stock second;

        private Scene() {
            house.record(0);
            house.record(1);
            house.record(BARRED);
            house.span(SPAN);
            first = new Stock(house, 1, 0);
            second = new Stock(house, 2, 10);
            first.makeEarlyHolds(house);
            second.makeEarlyHolds(house);
            house.tick(EARLY_DAY);
            first.makeHolds(house);
            first.makeQueue(house);
            second.makeHolds(house);
            second.makeQueue(house);
            house.hold(AT_ITS_LIMIT, 3, 0, 0);
            house.most(AT_ITS_LIMIT, 1);
            house.bar(BARRED, true);
            house.tick(DAY);
        }
    }
}
