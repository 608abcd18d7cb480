/**
 * Each sentence of the document that names a boundary, with a test of its own: the last that is still good and
 * the first that is not, nothing yet and full, the least and the greatest number. Each test begins with the
 * words that it holds the class to. What a refused call leaves as it was is RefusalTest's.
 */
public final class BoundaryTest {
    private static final int LEAST = Integer.MIN_VALUE;
    private static final int GREATEST = Integer.MAX_VALUE;
    private static final int NONE = HoldQueue.NONE;
    private static final long LAST_DAY = 1000000000L;

    private static final int FREE = 0;
    private static final int OUT = 1;
    private static final int ON_ITS_WAY = 2;
    private static final int LYING_READY = 3;

    private static final int WAITING = 0;
    private static final int IN_TRANSIT = 1;
    private static final int READY = 2;
    private static final int DONE = 3;
    private static final int EXPIRED = 4;
    private static final int CANCELLED = 5;

    private static final Checks CHECKS = new Checks("BoundaryTest");
    private static String sentence = "";

    public static void main(String[] args) {
        objects();
        records();
        copies();
        bars();
        holdNumbers();
        holdLimits();
        holdTraps();
        mosts();
        suspensions();
        backs();
        arrivals();
        picks();
        lends();
        cancels();
        ticks();
        spans();
        ranks();
        orders();
        states();
        wheres();
        CHECKS.end();
    }

    private static void about(String words) {
        sentence = words;
    }

    private static void due(String what, long got, long want) {
        CHECKS.due(sentence + ": " + what, got, want);
    }

    private static void due(String what, boolean got, boolean want) {
        CHECKS.due(sentence + ": " + what, got, want);
    }

    private static int[] outside(int first, int last) {
        return new int[] {LEAST, LEAST + 1, first - 1, last + 1, GREATEST - 1, GREATEST};
    }

    private static House withRecords(int count) {
        House house = new House();
        for (int n = 0; n < count; n++) {
            house.record(0);
        }
        return house;
    }

    /** One record, copies of it from place 0, all OUT. */
    private static House withCopies(int count) {
        House house = withRecords(1);
        for (int n = 0; n < count; n++) {
            house.copy(1, 0);
        }
        return house;
    }

    /** One record and one copy of it, FREE at place 0. */
    private static House withFreeCopy() {
        House house = withCopies(1);
        house.back(1, 0);
        return house;
    }

    /** One copy, READY at place 0 for hold 1, with the span given. */
    private static House withReadyHold(int span) {
        House house = withFreeCopy();
        house.span(span);
        house.hold(0, 1, 0, 0);
        return house;
    }

    /** One record without copies, and a hold of each person 0 .. 39 on it. */
    private static House withLongestQueue() {
        House house = withRecords(1);
        for (int person = 0; person < 40; person++) {
            house.hold(person, 1, 0, 0);
        }
        return house;
    }

    private static void objects() {
        newObjectIsEmpty();
        newObjectHasTheFirstSettings();
        lastCallIsPromised();
        refusalsCountAsCalls();
        objectsAreApart();
    }

    private static void newObjectIsEmpty() {
        about("1: No records, no copies, no holds");
        House house = new House();
        due("order(1, 0)", house.order(1, 0), 0);
        due("where(1, 0)", house.where(1, 0), NONE);
        due("state(1, 0)", house.state(1, 0), NONE);
        due("copy(1, 0)", house.copy(1, 0), 0);
        due("the first record", house.record(3), 1);
        due("the first copy", house.copy(1, 5), 1);
        due("the first hold", house.hold(39, 1, 5, 0), 1);
    }

    private static void newObjectHasTheFirstSettings() {
        about("Terms: barred from holds (none at first), THE DAY is 0 at first, the SPAN (7 at first), (3 at first)");
        House house = new House();
        for (int kind = 0; kind <= 3; kind++) {
            due("bar(" + kind + ", false)", house.bar(kind, false), false);
        }
        for (int person = 0; person <= 39; person++) {
            due("most(" + person + ", 3)", house.most(person, 3), 3);
        }
        due("span(7)", house.span(7), 7);
        due("tick(0)", house.tick(0), NONE);
        due("tick(1)", house.tick(1), 0);
    }

    private static void lastCallIsPromised() {
        about("What it is: at most 512 calls");
        House house = withFreeCopy();
        while (house.calls() < House.MOST_CALLS - 3) {
            due("lend", house.lend(1), 1);
            due("back", house.back(1, house.calls() % 6), 0);
        }
        due("call 510", house.hold(0, 1, 0, 0), 1);
        due("call 511", house.hold(1, 1, 0, 0), 2);
        due("call 512", house.where(1, 2), 1);
        due("calls", house.calls(), 512);
    }

    private static void refusalsCountAsCalls() {
        about("2: 0 if there are 30, up to call 512");
        House house = new House();
        for (int n = 1; n <= House.MOST_CALLS; n++) {
            due("record " + n, house.record(n % 4), n <= 30 ? n : 0);
        }
    }

    private static void objectsAreApart() {
        about("1: a new object, beside a full one");
        House full = Scenes.full();
        House fresh = new House();
        due("state(1, 0)", fresh.state(1, 0), NONE);
        due("record(0)", fresh.record(0), 1);
        due("the full one", full.record(0), 0);
    }

    private static void records() {
        recordsOfEachKind();
        recordsOfNoKind();
        recordsUpTo30();
    }

    private static void recordsOfEachKind() {
        about("2: a record of a kind, 0 .. 3");
        for (int kind = 0; kind <= 3; kind++) {
            House house = new House();
            due("record(" + kind + ")", house.record(kind), 1);
            for (int other = 0; other <= 3; other++) {
                house.bar(other, other != kind);
            }
            due("no other kind bars it", house.hold(0, 1, 0, 0), 1);
            house.bar(kind, true);
            due("its kind bars it", house.hold(1, 1, 0, 0), 0);
        }
    }

    private static void recordsOfNoKind() {
        about("2: 0 if there is no such kind");
        House house = new House();
        for (int kind : outside(0, 3)) {
            due("record(" + kind + ")", house.record(kind), 0);
        }
        due("the first after them", house.record(0), 1);
        for (int kind : outside(0, 3)) {
            due("record(" + kind + ")", house.record(kind), 0);
        }
        due("the second after them", house.record(3), 2);
    }

    private static void recordsUpTo30() {
        about("2: 0 if there are 30");
        House house = withRecords(29);
        due("record 30 is none yet", house.copy(30, 0), 0);
        due("the last", house.record(3), 30);
        due("one more", house.record(3), 0);
        due("one more of another kind", house.record(0), 0);
        due("one more of no kind", house.record(4), 0);
        due("copy of the last", house.copy(30, 0), 1);
        due("hold on the last", house.hold(0, 30, 0, 0), 1);
        due("queue of the last", house.order(30, 0), 1);
        due("copy of 31", house.copy(31, 0), 0);
        due("hold on 31", house.hold(0, 31, 0, 0), 0);
        due("queue of 31", house.order(31, 0), 0);
    }

    private static void copies() {
        copiesOfNoRecord();
        copiesAtEachPlace();
        copiesUpTo60();
    }

    private static void copiesOfNoRecord() {
        about("3: 0 if there is no such record");
        House house = new House();
        for (int made = 0; made <= 3; made++) {
            for (int record : outside(1, made)) {
                due("copy(" + record + ", 0) of " + made, house.copy(record, 0), 0);
            }
            house.record(made);
            due("copy of record " + (made + 1), house.copy(made + 1, 0), made + 1);
        }
    }

    private static void copiesAtEachPlace() {
        about("3: at a place, 0 .. 5; 0 if there is no such place");
        House house = withRecords(1);
        for (int place : outside(0, 5)) {
            due("copy(1, " + place + ")", house.copy(1, place), 0);
        }
        for (int place = 0; place <= 5; place++) {
            due("copy(1, " + place + ")", house.copy(1, place), place + 1);
            due("its place", house.where(place + 1, 1), place);
            due("it is OUT", house.where(place + 1, 0), OUT);
            due("with nobody in particular", house.where(place + 1, 2), 0);
        }
    }

    private static void copiesUpTo60() {
        about("3: 0 if there are 60");
        House house = withRecords(2);
        for (int n = 1; n <= 59; n++) {
            due("copy " + n, house.copy(1, 0), n);
        }
        due("copy 60 is none yet", house.where(60, 0), NONE);
        due("the last", house.copy(2, 5), 60);
        due("one more", house.copy(2, 5), 0);
        due("one more of another record", house.copy(1, 0), 0);
        due("the last is there", house.where(60, 0), OUT);
        due("61 is not", house.where(61, 0), NONE);
        house.hold(0, 2, 5, 0);
        due("the last is of its record", house.back(60, 5), 1);
    }

    private static void bars() {
        about("4: what it was; false if there is none such");
        House house = new House();
        for (int kind = 0; kind <= 3; kind++) {
            due("bar(" + kind + ", true)", house.bar(kind, true), false);
            due("bar(" + kind + ", true) again", house.bar(kind, true), true);
        }
        for (int kind : outside(0, 3)) {
            due("bar(" + kind + ", true), all barred", house.bar(kind, true), false);
            due("bar(" + kind + ", false), all barred", house.bar(kind, false), false);
        }
        for (int kind = 0; kind <= 3; kind++) {
            due("bar(" + kind + ", false)", house.bar(kind, false), true);
            due("bar(" + kind + ", false) again", house.bar(kind, false), false);
        }
        barsHoldsThatCome();
    }

    private static void barsHoldsThatCome() {
        about("4: barred from holds that come");
        House house = withCopies(1);
        house.hold(0, 1, 0, 0);
        house.bar(0, true);
        due("a hold that comes", house.hold(1, 1, 0, 0), 0);
        due("one that was there is WAITING", house.state(1, 0), WAITING);
        due("it may have another rank", house.rank(1, LEAST), 0);
        due("and gets its copy", house.back(1, 0), 1);
        due("a record of the barred kind may come", house.record(0), 2);
        due("and a copy of it", house.copy(2, 0), 2);
        house.bar(0, false);
        due("a hold after the bar", house.hold(1, 1, 0, 0), 2);
    }

    private static void holdNumbers() {
        holdOfNoPerson();
        holdOnNoRecord();
        holdAtNoPlace();
        holdOfAnyRank();
        holdsUpTo120();
    }

    private static void holdOfNoPerson() {
        about("5: 0 if there is no such person");
        House house = withRecords(1);
        for (int person : outside(0, 39)) {
            due("hold of " + person, house.hold(person, 1, 0, 0), 0);
        }
        due("hold of the first", house.hold(0, 1, 0, 0), 1);
        due("hold of the last", house.hold(39, 1, 0, 0), 2);
    }

    private static void holdOnNoRecord() {
        about("5: 0 if there is no such record");
        House house = new House();
        for (int made = 0; made <= 3; made++) {
            for (int record : outside(1, made)) {
                due("hold on " + record + " of " + made, house.hold(0, record, 0, 0), 0);
            }
            house.record(made);
            due("hold on record " + (made + 1), house.hold(made, made + 1, 0, 0), made + 1);
        }
    }

    private static void holdAtNoPlace() {
        about("5: 0 if there is no such place");
        for (int place : outside(0, 5)) {
            House house = withFreeCopy();
            due("hold at " + place, house.hold(0, 1, place, 0), 0);
            due("the copy stays FREE", house.where(1, 0), FREE);
        }
        for (int place = 0; place <= 5; place++) {
            House house = withFreeCopy();
            due("hold at " + place, house.hold(0, 1, place, 0), 1);
            due("where its copy goes", house.where(1, 1), place);
            due("READY or IN TRANSIT", house.state(1, 0), place == 0 ? READY : IN_TRANSIT);
        }
    }

    private static void holdOfAnyRank() {
        about("Terms: a RANK (an int), the least first, then by number");
        House house = withRecords(1);
        int[] ranks = {GREATEST, 1, LEAST, 0, -1, GREATEST, LEAST, GREATEST - 1, LEAST + 1};
        int[] queue = {3, 7, 9, 5, 4, 2, 8, 1, 6};
        for (int n = 0; n < ranks.length; n++) {
            due("hold of rank " + ranks[n], house.hold(n, 1, 0, ranks[n]), n + 1);
        }
        for (int i = 0; i < queue.length; i++) {
            due("order(1, " + i + ")", house.order(1, i), queue[i]);
            due("state(" + queue[i] + ", 2)", house.state(queue[i], 2), i);
        }
    }

    private static void holdsUpTo120() {
        about("5: 0 if there are 120");
        House house = withRecords(4);
        for (int n = 0; n < 119; n++) {
            due("hold " + (n + 1), house.hold(n / 3, 1 + n % 3, 0, 0), n + 1);
        }
        due("120 is none yet", house.state(120, 0), NONE);
        due("the last", house.hold(39, 3, 0, 0), 120);
        house.most(0, 20);
        due("one more of a person that may", house.hold(0, 4, 0, 0), 0);
        due("one more of a person that has as many as it may", house.hold(1, 4, 0, 0), 0);
        due("the last is there", house.state(120, 0), WAITING);
        due("121 is not", house.state(121, 0), NONE);
        house.cancel(1);
        due("one more after a cancel", house.hold(0, 1, 0, 0), 0);
        due("nothing in its queue", house.order(4, 0), 0);
        lastHoldDoesAllThatOthersDo();
    }

    private static void lastHoldDoesAllThatOthersDo() {
        about("Terms: A HOLD, 1 .. 120: the last");
        House house = Scenes.fullButForOneHold();
        due("120 is none yet", house.suspend(120, 1), 0);
        due("hold", house.hold(39, 30, 5, LEAST), 120);
        due("its place in the queue", house.state(120, 2), 0);
        due("suspend", house.suspend(120, 6), 1);
        due("the copy of its record passes it by", house.back(30, 5), 30);
        due("rank", house.rank(120, GREATEST), 2);
        due("rank again", house.rank(120, LEAST), 0);
        house.tick(6);
        due("its suspension is over", house.back(60, 4), 120);
        due("IN TRANSIT", house.state(120, 0), IN_TRANSIT);
        due("arrive", house.arrive(60), 1);
        due("hold 30 expires before it", house.tick(13), 1);
        due("it is READY", house.state(120, 0), READY);
        due("its copy", house.state(120, 1), 60);
        due("it expires", house.tick(14), 1);
        due("EXPIRED", house.state(120, 0), EXPIRED);
        due("121 is none", house.hold(39, 30, 5, LEAST), 0);
    }

    private static void holdLimits() {
        holdOfABarredKind();
        holdOnceOnARecord();
        holdAgainAfterAnEnd();
        threeAtFirst();
        eachOfTheseCounts();
        limitThatFell();
    }

    private static void holdOfABarredKind() {
        about("5: 0 if the kind is barred");
        House house = withFreeCopy();
        house.bar(0, true);
        due("hold", house.hold(0, 1, 0, 0), 0);
        house.most(0, 0);
        due("hold of one that may have none", house.hold(0, 1, 0, 0), 0);
        due("the copy stays FREE", house.where(1, 0), FREE);
        due("no hold was made", house.state(1, 0), NONE);
    }

    private static void holdOnceOnARecord() {
        about("5: 0 if the person has one on this record that is WAITING, IN TRANSIT or READY");
        House house = withCopies(2);
        house.hold(0, 1, 1, 0);
        due("while WAITING", house.hold(0, 1, 1, 0), 0);
        house.suspend(1, 9);
        due("while SUSPENDED", house.hold(0, 1, 1, 0), 0);
        house.suspend(1, 0);
        house.back(1, 0);
        due("while IN TRANSIT", house.hold(0, 1, 1, 0), 0);
        house.arrive(1);
        due("while READY", house.hold(0, 1, 1, 0), 0);
        due("at another place, with another rank", house.hold(0, 1, 5, LEAST), 0);
        due("of another person", house.hold(1, 1, 1, 0), 2);
        house.record(0);
        due("on another record", house.hold(0, 2, 1, 0), 3);
    }

    private static void holdAgainAfterAnEnd() {
        about("5: one that is DONE, EXPIRED or CANCELLED is none of these");
        House done = withReadyHold(7);
        done.pick(1);
        due("after DONE", done.hold(0, 1, 0, 0), 2);
        House expired = withReadyHold(1);
        expired.tick(2);
        due("after EXPIRED", expired.hold(0, 1, 0, 0), 2);
        House cancelled = withReadyHold(7);
        cancelled.cancel(1);
        due("after CANCELLED", cancelled.hold(0, 1, 0, 0), 2);
        House onTheWay = withFreeCopy();
        onTheWay.hold(0, 1, 1, 0);
        onTheWay.cancel(1);
        due("after CANCELLED on the way", onTheWay.hold(0, 1, 0, 0), 2);
    }

    private static void threeAtFirst() {
        about("5: -1 if the person has as many of these as it may (3 at first)");
        House house = withRecords(4);
        for (int person : new int[] {0, 20, 39}) {
            int before = house.holds();
            due("the first", house.hold(person, 1, 0, 0), before + 1);
            due("the second", house.hold(person, 2, 0, 0), before + 2);
            due("the third", house.hold(person, 3, 0, 0), before + 3);
            due("the fourth", house.hold(person, 4, 0, 0), -1);
            due("the fourth again", house.hold(person, 4, 5, LEAST), -1);
        }
        due("none was made", house.order(4, 0), 0);
    }

    private static void eachOfTheseCounts() {
        about("5: as many of these: WAITING, IN TRANSIT and READY");
        House house = withRecords(3);
        house.copy(1, 0);
        house.copy(2, 0);
        house.most(0, 1);
        house.hold(0, 1, 0, 0);
        due("beside one WAITING", house.hold(0, 2, 0, 0), -1);
        house.suspend(1, Long.MAX_VALUE);
        due("beside one SUSPENDED", house.hold(0, 2, 0, 0), -1);
        house.suspend(1, 0);
        house.back(1, 1);
        due("beside one IN TRANSIT", house.hold(0, 2, 0, 0), -1);
        house.arrive(1);
        due("beside one READY", house.hold(0, 2, 0, 0), -1);
        house.pick(1);
        due("beside one DONE", house.hold(0, 2, 0, 0), 2);
        house.cancel(2);
        due("beside one CANCELLED", house.hold(0, 2, 0, 0), 3);
        house.back(2, 0);
        house.tick(8);
        due("beside one EXPIRED", house.hold(0, 3, 0, 0), 4);
        due("and no more", house.hold(0, 1, 0, 0), -1);
    }

    private static void limitThatFell() {
        about("6: a person has more than it may, after most");
        House house = withRecords(4);
        house.hold(0, 1, 0, 0);
        house.hold(0, 2, 0, 0);
        house.hold(0, 3, 0, 0);
        house.most(0, 1);
        due("what it has stays", house.order(3, 0), 3);
        due("3 of 1", house.hold(0, 4, 0, 0), -1);
        house.cancel(1);
        house.cancel(2);
        due("1 of 1", house.hold(0, 4, 0, 0), -1);
        house.cancel(3);
        due("0 of 1", house.hold(0, 4, 0, 0), 4);
    }

    private static void holdTraps() {
        noCopyIsFree();
        leastFreeCopy();
        anotherHoldIsFirst();
        lastCopyIsFree();
    }

    private static void noCopyIsFree() {
        about("5: if a copy of the record is FREE: none is");
        House house = withRecords(2);
        due("no copy at all", house.hold(0, 1, 0, 0), 1);
        due("it waits", house.state(1, 0), WAITING);
        house.copy(2, 0);
        due("a copy that is OUT", house.hold(0, 2, 0, 0), 2);
        due("it waits", house.state(2, 0), WAITING);
        house.back(1, 0);
        due("a copy that is ready for another", house.hold(1, 2, 0, LEAST), 3);
        due("it waits", house.state(3, 0), WAITING);
        onlyOtherRecordsHaveAFreeCopy();
    }

    private static void onlyOtherRecordsHaveAFreeCopy() {
        about("5: if a copy of the record is FREE: only the records beside it have one");
        House house = withRecords(3);
        house.copy(1, 0);
        house.copy(3, 0);
        house.copy(2, 0);
        house.hold(0, 2, 0, 0);
        house.suspend(1, 1);
        for (int copy = 1; copy <= 3; copy++) {
            house.back(copy, 0);
        }
        house.hold(1, 2, 0, 5);
        due("the record's own copy is TRAPPED, of a greater number", house.where(3, 2), 2);
        house.suspend(1, 0);
        house.hold(2, 2, 0, 5);
        due("then none is: it waits", house.state(3, 0), WAITING);
        due("the first too", house.state(1, 0), WAITING);
        due("the copy of the record before stays FREE", house.where(1, 0), FREE);
        due("that of the record behind too", house.where(2, 0), FREE);
    }

    private static void leastFreeCopy() {
        about("5: the least number of these is TRAPPED");
        House house = withCopies(3);
        house.back(3, 1);
        house.back(2, 0);
        house.hold(0, 1, 1, 0);
        due("copy 2, though 3 is at the place", house.where(2, 2), 1);
        due("it is on its way", house.where(2, 0), ON_ITS_WAY);
        due("3 stays FREE", house.where(3, 0), FREE);
        due("1 stays OUT", house.where(1, 0), OUT);
        house.hold(1, 1, 1, 0);
        due("then copy 3", house.where(3, 2), 2);
        due("it is ready", house.where(3, 0), LYING_READY);
    }

    private static void anotherHoldIsFirst() {
        about("5: for the first that FITS it at once (which may be another hold)");
        for (int rank : new int[] {LEAST, 4, 5, 6, GREATEST}) {
            House house = withCopies(1);
            house.hold(0, 1, 0, 5);
            house.suspend(1, Long.MAX_VALUE);
            house.back(1, 0);
            house.suspend(1, Long.MIN_VALUE);
            due("the hold that comes", house.hold(1, 1, 3, rank), 2);
            due("rank " + rank + " against 5", house.where(1, 2), rank < 5 ? 2 : 1);
        }
        House suspended = withCopies(1);
        suspended.hold(0, 1, 0, LEAST);
        suspended.suspend(1, 1);
        suspended.back(1, 0);
        suspended.hold(1, 1, 0, GREATEST);
        due("a SUSPENDED one is passed by", suspended.where(1, 2), 2);
    }

    private static void lastCopyIsFree() {
        about("5: the FREE copy is number 60");
        House house = withCopies(60);
        house.back(60, 5);
        due("hold", house.hold(39, 1, 5, 0), 1);
        due("its copy", house.state(1, 1), 60);
        due("it is ready", house.where(60, 0), LYING_READY);
    }

    private static void mosts() {
        about("6: 0 .. 20: what it was; NONE if there is no such number");
        House house = withRecords(22);
        for (int n : outside(0, 20)) {
            due("most(0, " + n + ")", house.most(0, n), NONE);
        }
        due("most(0, 20)", house.most(0, 20), 3);
        for (int record = 1; record <= 20; record++) {
            due("hold " + record + " of 20", house.hold(0, record, 0, 0), record);
        }
        due("hold 21 of 20", house.hold(0, 21, 0, 0), -1);
        due("most(0, 21)", house.most(0, 21), NONE);
        due("hold 21 of 20 again", house.hold(0, 21, 0, 0), -1);
        due("most(0, 0)", house.most(0, 0), 20);
        due("most(0, 0) again", house.most(0, 0), 0);
        due("most(1, 0)", house.most(1, 0), 3);
        due("hold 1 of 0", house.hold(1, 1, 0, 0), -1);
        due("most(1, 1)", house.most(1, 1), 0);
        due("hold 1 of 1", house.hold(1, 1, 0, 0), 21);
        due("hold 2 of 1", house.hold(1, 2, 0, 0), -1);
        mostOfEachPerson();
    }

    private static void mostOfEachPerson() {
        about("6: NONE if there is no such person");
        House house = new House();
        for (int person : outside(0, 39)) {
            due("most(" + person + ", 0)", house.most(person, 0), NONE);
            due("most(" + person + ", 3)", house.most(person, 3), NONE);
            due("most(" + person + ", 20)", house.most(person, 20), NONE);
        }
        for (int person = 0; person <= 39; person++) {
            due("most(" + person + ", n)", house.most(person, person % 21), 3);
        }
        for (int person = 0; person <= 39; person++) {
            due("most(" + person + ", n) again", house.most(person, 3), person % 21);
        }
    }

    private static void suspensions() {
        suspendedWhileBelow();
        suspendedOnTheLastDay();
        suspendedAnew();
        suspendedInTheQueue();
        freeCopiesStaySo();
        suspendOneThatIsNotWaiting();
    }

    private static void suspendedWhileBelow() {
        about("Terms: it is SUSPENDED while THE DAY is below that");
        long[] over = {Long.MIN_VALUE, Long.MIN_VALUE + 1, -1, 0, 1, 4, 5};
        long[] still = {6, 7, LAST_DAY, LAST_DAY + 1, (1L << 32) + 1, Long.MAX_VALUE - 1, Long.MAX_VALUE};
        for (long until : over) {
            House house = withWaitingHoldOnDay(5);
            due("suspend(1, " + until + ")", house.suspend(1, until), 1);
            due("until " + until + " it is not", house.back(1, 0), 1);
        }
        for (long until : still) {
            House house = withWaitingHoldOnDay(5);
            due("suspend(1, " + until + ")", house.suspend(1, until), 1);
            due("until " + until + " it is", house.back(1, 0), 0);
        }
        House house = withWaitingHoldOnDay(5);
        house.suspend(1, 7);
        house.tick(6);
        due("the day before", house.back(1, 0), 0);
        house.lend(1);
        house.tick(7);
        due("the day itself", house.back(1, 0), 1);
    }

    private static House withWaitingHoldOnDay(long day) {
        House house = withCopies(1);
        house.hold(0, 1, 0, 0);
        house.tick(day);
        return house;
    }

    private static void suspendedOnTheLastDay() {
        about("7: SUSPENDED until a day, on the last day that there is");
        House over = withWaitingHoldOnDay(LAST_DAY);
        over.suspend(1, LAST_DAY);
        due("until that day", over.back(1, 0), 1);
        House still = withWaitingHoldOnDay(LAST_DAY);
        still.suspend(1, LAST_DAY + 1);
        due("until the next", still.back(1, 0), 0);
    }

    private static void suspendedAnew() {
        about("7: SUSPENDED until a day (or no more)");
        House house = withWaitingHoldOnDay(5);
        house.suspend(1, Long.MAX_VALUE);
        due("longer", house.back(1, 0), 0);
        house.lend(1);
        due("then shorter", house.suspend(1, 6), 1);
        due("still", house.back(1, 0), 0);
        house.lend(1);
        due("then no more", house.suspend(1, 5), 1);
        due("the same again", house.suspend(1, 5), 1);
        due("not any more", house.back(1, 0), 1);
    }

    private static void suspendedInTheQueue() {
        about("Terms: THE QUEUE: its WAITING holds, those SUSPENDED too");
        House house = withCopies(1);
        house.hold(0, 1, 0, 0);
        house.hold(1, 1, 0, 0);
        house.suspend(1, Long.MAX_VALUE);
        due("state 0", house.state(1, 0), WAITING);
        due("state 2", house.state(1, 2), 0);
        due("order(1, 0)", house.order(1, 0), 1);
        due("order(1, 1)", house.order(1, 1), 2);
        due("the second is the first that FITS", house.back(1, 0), 2);
    }

    private static void freeCopiesStaySo() {
        about("7: Copies that are FREE stay so until they come back, or a hold comes");
        House house = withCopies(2);
        house.hold(0, 1, 0, 0);
        house.suspend(1, 3);
        house.back(1, 0);
        house.suspend(1, 0);
        due("after suspend", house.where(1, 0), FREE);
        house.rank(1, LEAST);
        due("after rank", house.where(1, 0), FREE);
        house.suspend(1, 3);
        house.tick(3);
        due("after tick", house.where(1, 0), FREE);
        house.span(1);
        house.bar(0, true);
        house.bar(0, false);
        due("after bar", house.where(1, 0), FREE);
        due("another copy comes back", house.back(2, 0), 1);
        due("the first stays FREE", house.where(1, 0), FREE);
    }

    private static void suspendOneThatIsNotWaiting() {
        about("7: 0 if there is none such, or it is not WAITING");
        due("WAITING where there is no copy at all", withLongestQueue().suspend(40, 5), 1);
        House house = withCopies(1);
        due("none yet", house.suspend(1, 5), 0);
        house.hold(0, 1, 1, 0);
        for (int hold : outside(1, 1)) {
            due("suspend(" + hold + ", 5)", house.suspend(hold, 5), 0);
        }
        due("WAITING", house.suspend(1, 0), 1);
        house.back(1, 0);
        due("IN TRANSIT", house.suspend(1, 5), 0);
        house.arrive(1);
        due("READY", house.suspend(1, 5), 0);
        house.tick(7);
        due("READY on its last day", house.suspend(1, Long.MAX_VALUE), 0);
        due("it expires all the same", house.tick(8), 1);
        due("EXPIRED", house.suspend(1, 5), 0);
        house.hold(0, 1, 1, 0);
        house.pick(2);
        due("DONE", house.suspend(2, 5), 0);
        house.hold(0, 1, 1, 0);
        house.cancel(3);
        due("CANCELLED", house.suspend(3, 5), 0);
    }

    private static void backs() {
        backOfNoCopy();
        backAtEachPlace();
        backWithoutAHold();
        backThatIsNotOut();
    }

    private static void backOfNoCopy() {
        about("8: NONE if there is no such copy");
        House house = withRecords(1);
        due("none yet", house.back(1, 0), NONE);
        for (int made = 1; made <= 2; made++) {
            house.copy(1, 0);
            for (int copy : outside(1, made)) {
                due("back(" + copy + ", 0) of " + made, house.back(copy, 0), NONE);
            }
        }
        due("the last", house.back(2, 0), 0);
        House full = withCopies(60);
        due("61", full.back(61, 0), NONE);
        due("60", full.back(60, 0), 0);
    }

    private static void backAtEachPlace() {
        about("8: NONE if there is no such place; Terms: READY, if it is at the pick-up place, else IN TRANSIT");
        House house = withCopies(1);
        for (int place : outside(0, 5)) {
            due("back(1, " + place + ")", house.back(1, place), NONE);
        }
        for (int place = 0; place <= 5; place++) {
            for (int pickUp = 0; pickUp <= 5; pickUp++) {
                House each = withCopies(1);
                each.hold(0, 1, pickUp, 0);
                due("back(1, " + place + ") for " + pickUp, each.back(1, place), 1);
                due("state", each.state(1, 0), place == pickUp ? READY : IN_TRANSIT);
                due("where", each.where(1, 0), place == pickUp ? LYING_READY : ON_ITS_WAY);
                due("the place", each.where(1, 1), pickUp);
            }
        }
    }

    private static void backWithoutAHold() {
        about("8: 0 if there is none (it is FREE)");
        House house = withRecords(2);
        house.copy(1, 0);
        for (int place = 0; place <= 5; place++) {
            due("no hold at all", house.back(1, place), 0);
            due("FREE", house.where(1, 0), FREE);
            due("at the place", house.where(1, 1), place);
            due("of no hold", house.where(1, 2), 0);
            house.lend(1);
        }
        house.hold(0, 2, 0, 0);
        due("a hold on another record", house.back(1, 0), 0);
        house.lend(1);
        house.hold(0, 1, 0, 0);
        house.cancel(2);
        due("a hold that ended", house.back(1, 0), 0);
    }

    private static void backThatIsNotOut() {
        about("8: NONE if it is not OUT");
        House house = withFreeCopy();
        due("FREE", house.back(1, 0), NONE);
        due("FREE, at another place", house.back(1, 5), NONE);
        house.hold(0, 1, 1, 0);
        due("on its way", house.back(1, 1), NONE);
        house.arrive(1);
        due("ready", house.back(1, 1), NONE);
        house.pick(1);
        due("OUT", house.back(1, 1), 0);
        due("FREE again", house.back(1, 1), NONE);
    }

    private static void arrivals() {
        arriveOfNoCopy();
        arriveThatIsNotOnItsWay();
        arriveForACancelledHold();
        endFromTheArrival();
    }

    private static void arriveOfNoCopy() {
        about("9: NONE if there is no such copy");
        House house = new House();
        due("none yet", house.arrive(1), NONE);
        house.record(0);
        house.copy(1, 0);
        house.hold(0, 1, 1, 0);
        house.back(1, 0);
        for (int copy : outside(1, 1)) {
            due("arrive(" + copy + ")", house.arrive(copy), NONE);
        }
        due("the one that there is", house.arrive(1), 1);
    }

    private static void arriveThatIsNotOnItsWay() {
        about("9: NONE if it is not on its way");
        House house = withCopies(1);
        due("OUT", house.arrive(1), NONE);
        house.back(1, 0);
        due("FREE", house.arrive(1), NONE);
        house.hold(0, 1, 0, 0);
        due("ready", house.arrive(1), NONE);
        house.cancel(1);
        house.hold(0, 1, 1, 0);
        due("on its way", house.arrive(1), 1);
        due("ready by that", house.arrive(1), NONE);
        due("it is READY still", house.state(2, 0), READY);
    }

    private static void arriveForACancelledHold() {
        about("9: 0 if that was cancelled on the way (then it is looked for a hold anew, as if it came back there)");
        int[] states = {WAITING, READY, IN_TRANSIT};
        int[] lies = {FREE, LYING_READY, ON_ITS_WAY};
        for (int next = 0; next <= 2; next++) {
            House house = withFreeCopy();
            house.hold(0, 1, 2, 0);
            house.cancel(1);
            house.hold(1, 1, next == 1 ? 2 : 3, 0);
            house.suspend(2, next == 0 ? 1 : 0);
            due("arrive", house.arrive(1), 0);
            due("the next hold", house.state(2, 0), states[next]);
            due("the copy", house.where(1, 0), lies[next]);
            due("its place", house.where(1, 1), next == 2 ? 3 : 2);
            due("its hold", house.where(1, 2), next == 0 ? 0 : 2);
            due("the cancelled hold", house.state(1, 0), CANCELLED);
            due("its copy", house.state(1, 1), 0);
        }
        House again = withFreeCopy();
        again.hold(0, 1, 2, 0);
        again.cancel(1);
        due("the same person's next hold", again.hold(0, 1, 2, 0), 2);
        due("it waits for the arrival", again.state(2, 0), WAITING);
        due("arrive", again.arrive(1), 0);
        due("it is READY by that", again.state(2, 0), READY);
    }

    private static void endFromTheArrival() {
        about("9: READY now, until THE DAY and the SPAN");
        House house = withFreeCopy();
        house.hold(0, 1, 1, 0);
        due("on its way there is no end", house.tick(100), 0);
        house.span(1);
        house.arrive(1);
        due("its last day", house.tick(101), 0);
        due("the day after", house.tick(102), 1);
    }

    private static void picks() {
        about("10: 0 if there is none such, or it is not READY");
        House house = withCopies(1);
        due("none yet", house.pick(1), 0);
        house.hold(0, 1, 1, 0);
        for (int hold : outside(1, 1)) {
            due("pick(" + hold + ")", house.pick(hold), 0);
        }
        due("WAITING", house.pick(1), 0);
        house.back(1, 0);
        due("IN TRANSIT", house.pick(1), 0);
        house.arrive(1);
        for (int hold : outside(1, 1)) {
            due("pick(" + hold + ") beside one READY", house.pick(hold), 0);
        }
        due("READY", house.pick(1), 1);
        due("DONE", house.pick(1), 0);
        house.hold(0, 1, 1, 0);
        house.cancel(2);
        due("CANCELLED", house.pick(2), 0);
        pickOfTheLastCopy();
        pickUntilTheEnd();
    }

    private static void pickOfTheLastCopy() {
        about("10: the copy (it is OUT, the hold DONE), of number 60");
        House house = withCopies(60);
        house.hold(39, 1, 5, 0);
        house.back(60, 5);
        due("pick(1)", house.pick(1), 60);
        due("the copy is OUT", house.where(60, 0), OUT);
        due("the copy has no hold", house.where(60, 2), 0);
        due("the hold is DONE", house.state(1, 0), DONE);
        due("no copy is TRAPPED for it", house.state(1, 1), 0);
        due("it is in no queue", house.state(1, 2), NONE);
    }

    private static void pickUntilTheEnd() {
        about("10: a hold that is READY, until an END");
        House house = withReadyHold(7);
        house.tick(7);
        due("on the last day", house.pick(1), 1);
        due("the hold is DONE", house.state(1, 0), DONE);
        due("the copy is OUT", house.where(1, 0), OUT);
        due("a DONE hold does not expire", house.tick(8), 0);
        due("it stays DONE", house.state(1, 0), DONE);
        House late = withReadyHold(7);
        late.tick(8);
        due("the day after", late.pick(1), 0);
        due("it stays EXPIRED", late.state(1, 0), EXPIRED);
        due("the copy stays FREE", late.where(1, 0), FREE);
    }

    private static void lends() {
        about("11: 0 if there is none such, or it is not FREE");
        House house = new House();
        due("none yet", house.lend(1), 0);
        house.record(0);
        house.copy(1, 0);
        due("OUT", house.lend(1), 0);
        house.back(1, 0);
        for (int copy : outside(1, 1)) {
            due("lend(" + copy + ")", house.lend(copy), 0);
        }
        due("FREE", house.lend(1), 1);
        due("OUT by that", house.lend(1), 0);
        house.hold(0, 1, 1, 0);
        house.back(1, 0);
        due("on its way", house.lend(1), 0);
        house.cancel(1);
        due("on its way for a cancelled hold", house.lend(1), 0);
        house.arrive(1);
        due("FREE on arrival", house.lend(1), 1);
        house.hold(0, 1, 1, 0);
        house.back(1, 1);
        due("ready", house.lend(1), 0);
        House full = withCopies(60);
        full.back(60, 0);
        due("61", full.lend(61), 0);
        due("60", full.lend(60), 1);
    }

    private static void cancels() {
        cancelOfNoHold();
        cancelOfAnEndedHold();
        cancelOfReady();
        cancelOnTheWay();
    }

    private static void cancelOfNoHold() {
        about("12: 0 if there is none such");
        House house = withRecords(1);
        due("none yet", house.cancel(1), 0);
        house.hold(0, 1, 0, 0);
        for (int hold : outside(1, 1)) {
            due("cancel(" + hold + ")", house.cancel(hold), 0);
        }
        due("the one that there is", house.cancel(1), 1);
    }

    private static void cancelOfAnEndedHold() {
        about("12: 0 if it is DONE, EXPIRED or CANCELLED");
        House house = withReadyHold(1);
        house.pick(1);
        due("DONE", house.cancel(1), 0);
        due("its state", house.state(1, 0), DONE);
        due("its copy stays OUT", house.where(1, 0), OUT);
        house.back(1, 0);
        house.hold(0, 1, 0, 0);
        house.tick(2);
        due("EXPIRED", house.cancel(2), 0);
        due("its state", house.state(2, 0), EXPIRED);
        house.hold(0, 1, 0, 0);
        house.cancel(3);
        due("CANCELLED", house.cancel(3), 0);
        house.hold(0, 1, 1, 0);
        house.cancel(4);
        due("CANCELLED on the way", house.cancel(4), 0);
        due("the copy goes on", house.where(1, 0), ON_ITS_WAY);
    }

    private static void cancelOfReady() {
        about("12: A copy that lay ready for it is free to go");
        House alone = withReadyHold(7);
        due("no other hold", alone.cancel(1), 1);
        due("the copy is FREE", alone.where(1, 0), FREE);
        due("it is of no hold", alone.where(1, 2), 0);
        due("the hold has no copy", alone.state(1, 1), 0);
        House suspended = withReadyHold(7);
        suspended.hold(1, 1, 0, 0);
        suspended.suspend(2, 1);
        suspended.cancel(1);
        due("the other is SUSPENDED", suspended.where(1, 0), FREE);
        for (int place : new int[] {0, 5}) {
            House next = withReadyHold(7);
            next.hold(1, 1, place, 0);
            next.tick(7);
            next.cancel(1);
            due("the next has it", next.state(2, 1), 1);
            due("its state", next.state(2, 0), place == 0 ? READY : IN_TRANSIT);
            due("its end is its own", next.tick(14), 0);
            due("the day after that", next.tick(15), place == 0 ? 1 : 0);
        }
    }

    private static void cancelOnTheWay() {
        about("12: one on its way goes on");
        House house = withFreeCopy();
        house.hold(0, 1, 5, 0);
        house.hold(1, 1, 0, 0);
        due("cancel", house.cancel(1), 1);
        due("still on its way", house.where(1, 0), ON_ITS_WAY);
        due("to the same place", house.where(1, 1), 5);
        due("the next waits", house.state(2, 0), WAITING);
        due("not back", house.back(1, 0), NONE);
        due("not to be lent", house.lend(1), 0);
        due("no tick ends it", house.tick(LAST_DAY), 0);
        due("it arrives", house.arrive(1), 0);
        due("and goes to the next", house.where(1, 1), 0);
    }

    private static void ticks() {
        dayIsLater();
        dayUpToTheLast();
        endIsBelow();
        manyExpireAtOnce();
        expiredByTheirNumbers();
        whatExpiredByTickIsLookedForOnThatDay();
        othersDoNotExpire();
    }

    private static void dayIsLater() {
        about("13: NONE if it is not later");
        House house = new House();
        for (long day : new long[] {Long.MIN_VALUE, Long.MIN_VALUE + 1, -LAST_DAY, -1, 0}) {
            due("tick(" + day + ") on day 0", house.tick(day), NONE);
        }
        due("tick(1)", house.tick(1), 0);
        due("tick(1) again", house.tick(1), NONE);
        due("tick(2)", house.tick(2), 0);
        for (long day : new long[] {Long.MIN_VALUE, -1, 0, 1, 2}) {
            due("tick(" + day + ") on day 2", house.tick(day), NONE);
        }
        due("tick(3)", house.tick(3), 0);
    }

    private static void dayUpToTheLast() {
        about("13: NONE if it is above 1000000000");
        House house = new House();
        long[] above = {LAST_DAY + 1, 1L << 31, 1L << 32, (1L << 32) + 1, Long.MAX_VALUE - 1, Long.MAX_VALUE};
        for (long day : above) {
            due("tick(" + day + ")", house.tick(day), NONE);
        }
        due("the last but one", house.tick(LAST_DAY - 1), 0);
        due("the last", house.tick(LAST_DAY), 0);
        due("the last again", house.tick(LAST_DAY), NONE);
        for (long day : above) {
            due("tick(" + day + ") on the last day", house.tick(day), NONE);
        }
        due("the last at once", new House().tick(LAST_DAY), 0);
    }

    private static void endIsBelow() {
        about("13: those READY whose END is below it");
        House house = withReadyHold(7);
        due("the day before the END", house.tick(6), 0);
        due("the END", house.tick(7), 0);
        due("READY on it", house.state(1, 0), READY);
        due("the day after", house.tick(8), 1);
        due("EXPIRED", house.state(1, 0), EXPIRED);
        due("the copy is FREE", house.where(1, 0), FREE);
        due("no copy is TRAPPED for it", house.state(1, 1), 0);
        due("just once", house.tick(9), 0);
        House atOnce = withReadyHold(99);
        due("far after", atOnce.tick(LAST_DAY), 1);
        House refused = withReadyHold(7);
        due("too far after", refused.tick(LAST_DAY + 1), NONE);
        due("it is READY", refused.state(1, 0), READY);
        due("and the day is not another one", refused.tick(1), 0);
    }

    private static void manyExpireAtOnce() {
        about("13: how many holds EXPIRED by that");
        House house = withRecords(2);
        for (int n = 1; n <= 60; n++) {
            house.copy(n <= 30 ? 1 : 2, 0);
        }
        for (int n = 1; n <= 60; n++) {
            house.hold((n - 1) % 30, n <= 30 ? 1 : 2, 0, 0);
            due("back", house.back(n, 0), n);
        }
        due("none yet", house.tick(7), 0);
        due("all 60", house.tick(8), 60);
        for (int n = 1; n <= 60; n++) {
            due("EXPIRED " + n, house.state(n, 0), EXPIRED);
            due("FREE " + n, house.where(n, 0), FREE);
        }
        due("none is left", house.tick(LAST_DAY), 0);
    }

    private static void expiredByTheirNumbers() {
        about("13: by their numbers, each copy free to go then");
        House house = withCopies(3);
        house.hold(0, 1, 0, 3);
        house.hold(1, 1, 0, 2);
        house.hold(2, 1, 0, 1);
        // The holds take the copies backwards, so the order of holds can be told from that of copies.
        due("copy 1 for hold 3", house.back(1, 0), 3);
        due("copy 2 for hold 2", house.back(2, 0), 2);
        due("copy 3 for hold 1", house.back(3, 0), 1);
        house.hold(3, 1, 0, 5);
        house.hold(4, 1, 0, 4);
        due("all three", house.tick(8), 3);
        due("hold 1's copy goes to the first in the queue", house.state(5, 1), 3);
        due("hold 2's copy goes to the second", house.state(4, 1), 2);
        due("hold 3's copy is FREE", house.where(1, 0), FREE);
    }

    private static void whatExpiredByTickIsLookedForOnThatDay() {
        about("13: THE DAY is another one when the copies are free to go");
        for (long until : new long[] {8, 9}) {
            House house = withReadyHold(7);
            house.hold(1, 1, 0, 0);
            house.suspend(2, until);
            due("hold 1 expires", house.tick(8), 1);
            due("the next, SUSPENDED until " + until, house.state(2, 0), until == 8 ? READY : WAITING);
            due("its END counts from that day", house.tick(15), 0);
            due("the day after", house.tick(16), until == 8 ? 1 : 0);
        }
        House far = withReadyHold(1);
        far.hold(1, 1, 0, 0);
        due("the next does not expire by the same tick", far.tick(LAST_DAY - 2), 1);
        due("it is READY", far.state(2, 0), READY);
        due("its last day", far.tick(LAST_DAY - 1), 0);
        due("the last day of all", far.tick(LAST_DAY), 1);
    }

    private static void othersDoNotExpire() {
        about("13: those READY alone");
        House house = withFreeCopy();
        house.hold(0, 1, 1, 0);
        house.hold(1, 1, 1, 0);
        due("one IN TRANSIT, one WAITING", house.tick(LAST_DAY), 0);
        due("IN TRANSIT", house.state(1, 0), IN_TRANSIT);
        due("WAITING", house.state(2, 0), WAITING);
        due("it arrives on the last day", house.arrive(1), 1);
        due("READY then", house.state(1, 0), READY);
        due("and may be picked up", house.pick(1), 1);
    }

    private static void spans() {
        about("14: 1 .. 99 days: what it was; NONE if it can't be");
        House house = new House();
        for (int days : outside(1, 99)) {
            due("span(" + days + ")", house.span(days), NONE);
        }
        due("span(1)", house.span(1), 7);
        due("span(0)", house.span(0), NONE);
        due("span(99)", house.span(99), 1);
        due("span(100)", house.span(100), NONE);
        due("span(2)", house.span(2), 99);
        due("span(98)", house.span(98), 2);
        due("span(7)", house.span(7), 98);
        for (int days : new int[] {1, 2, 7, 98, 99}) {
            House ready = withReadyHold(days);
            due("the END after " + days, ready.tick(days), 0);
            due("the day after that", ready.tick(days + 1L), 1);
        }
        spanForThoseThatBecomeReady();
    }

    private static void spanForThoseThatBecomeReady() {
        about("14: for holds that become READY");
        House longer = withReadyHold(1);
        longer.span(99);
        due("one that is READY keeps its END", longer.tick(2), 1);
        House shorter = withReadyHold(99);
        shorter.span(1);
        due("a shorter SPAN does not end it", shorter.tick(99), 0);
        due("its own END does", shorter.tick(100), 1);
        House onTheWay = withFreeCopy();
        onTheWay.span(1);
        onTheWay.hold(0, 1, 1, 0);
        onTheWay.span(99);
        onTheWay.arrive(1);
        due("one IN TRANSIT takes that of its arrival", onTheWay.tick(99), 0);
        due("and no longer", onTheWay.tick(100), 1);
    }

    private static void ranks() {
        rankOfNoHold();
        rankToTheEnds();
        rankInTheLongestQueue();
        rankOfOneThatIsNotWaiting();
    }

    private static void rankOfNoHold() {
        about("15: NONE if there is none such");
        House house = withRecords(1);
        due("none yet", house.rank(1, 0), NONE);
        house.hold(0, 1, 0, 0);
        for (int hold : outside(1, 1)) {
            due("rank(" + hold + ", 0)", house.rank(hold, 0), NONE);
        }
        for (int r : new int[] {LEAST, -1, 0, 1, GREATEST}) {
            due("alone in its queue with " + r, house.rank(1, r), 0);
        }
    }

    private static void rankToTheEnds() {
        about("15: another RANK: its place in the queue then, from 0 on");
        House house = withRecords(2);
        house.hold(0, 1, 0, LEAST);
        house.hold(1, 1, 0, 0);
        house.hold(2, 1, 0, GREATEST);
        house.hold(3, 2, 0, LEAST);
        due("the least, behind a smaller number", house.rank(2, LEAST), 1);
        due("one more than the least", house.rank(2, LEAST + 1), 1);
        due("the least, of a greater number", house.rank(3, LEAST), 1);
        due("the greatest, against others", house.rank(1, GREATEST), 2);
        due("the greatest, behind a smaller number", house.rank(3, GREATEST), 2);
        due("which is before it", house.state(1, 2), 1);
        due("one less than the greatest", house.rank(3, GREATEST - 1), 1);
        due("another record's queue is apart", house.state(4, 2), 0);
        due("order(1, 0)", house.order(1, 0), 2);
        due("order(1, 1)", house.order(1, 1), 3);
        due("order(1, 2)", house.order(1, 2), 1);
    }

    private static void rankInTheLongestQueue() {
        about("15: its place in the queue, of 40 holds");
        House house = withLongestQueue();
        due("to the end", house.rank(1, 1), 39);
        due("the last to the front", house.rank(40, -1), 0);
        due("the same rank as most", house.rank(20, 0), 19);
        due("back to the front of equals", house.rank(1, 0), 1);
        due("back to the end of equals", house.rank(40, 0), 39);
    }

    private static void rankOfOneThatIsNotWaiting() {
        about("15: NONE if it is not WAITING");
        House house = withCopies(1);
        house.hold(0, 1, 1, 0);
        house.suspend(1, 1);
        due("WAITING, SUSPENDED", house.rank(1, 5), 0);
        house.suspend(1, 0);
        house.back(1, 0);
        due("IN TRANSIT", house.rank(1, 0), NONE);
        house.arrive(1);
        due("READY", house.rank(1, 0), NONE);
        house.tick(8);
        due("EXPIRED", house.rank(1, 0), NONE);
        house.hold(0, 1, 1, 0);
        house.pick(2);
        due("DONE", house.rank(2, 0), NONE);
        house.hold(0, 1, 1, 0);
        house.cancel(3);
        due("CANCELLED", house.rank(3, 0), NONE);
    }

    private static void orders() {
        about("16: from 0 on; 0 if there is none such");
        House house = new House();
        due("no record yet", house.order(1, 0), 0);
        house.record(0);
        due("no hold yet", house.order(1, 0), 0);
        house.hold(0, 1, 0, 0);
        for (int i : outside(0, 0)) {
            due("order(1, " + i + ") of one", house.order(1, i), 0);
        }
        for (int record : outside(1, 1)) {
            due("order(" + record + ", 0)", house.order(record, 0), 0);
        }
        due("the one that there is", house.order(1, 0), 1);
        house.cancel(1);
        due("none any more", house.order(1, 0), 0);
        orderOfTheLongestQueue();
    }

    private static void orderOfTheLongestQueue() {
        about("16: the i-th, of 40 holds");
        House house = withLongestQueue();
        for (int i = 0; i < 40; i++) {
            due("order(1, " + i + ")", house.order(1, i), i + 1);
        }
        for (int i : outside(0, 39)) {
            due("order(1, " + i + ")", house.order(1, i), 0);
        }
        house.cancel(1);
        due("the first after a cancel", house.order(1, 0), 2);
        due("the last after a cancel", house.order(1, 38), 40);
        due("none behind it", house.order(1, 39), 0);
    }

    private static void states() {
        about("17: NONE if there is none such, or for another what");
        House house = withFreeCopy();
        for (int what = 0; what <= 2; what++) {
            due("none yet, what " + what, house.state(1, what), NONE);
        }
        house.hold(0, 1, 0, 0);
        house.hold(1, 1, 0, 0);
        for (int what = 0; what <= 2; what++) {
            for (int hold : outside(1, 2)) {
                due("state(" + hold + ", " + what + ")", house.state(hold, what), NONE);
            }
        }
        for (int what : outside(0, 2)) {
            due("state(1, " + what + ")", house.state(1, what), NONE);
            due("state(2, " + what + ")", house.state(2, what), NONE);
            due("state(3, " + what + ")", house.state(3, what), NONE);
        }
        due("state(1, 0)", house.state(1, 0), READY);
        due("state(1, 1)", house.state(1, 1), 1);
        due("state(1, 2): it is in no queue", house.state(1, 2), NONE);
        due("state(2, 0)", house.state(2, 0), WAITING);
        due("state(2, 1): there is no copy for it", house.state(2, 1), 0);
        due("state(2, 2): READY ones are not in the queue", house.state(2, 2), 0);
        stateOfTheLast();
    }

    private static void stateOfTheLast() {
        about("17: of hold 120, and of 121");
        House house = Scenes.full();
        due("state(119, 0)", house.state(119, 0), WAITING);
        due("state(120, 0)", house.state(120, 0), CANCELLED);
        due("state(120, 1)", house.state(120, 1), 0);
        due("state(120, 2)", house.state(120, 2), NONE);
        for (int what = 0; what <= 2; what++) {
            due("state(121, " + what + ")", house.state(121, what), NONE);
        }
    }

    private static void wheres() {
        about("18: NONE if there is none such, or for another what");
        House house = withRecords(1);
        for (int what = 0; what <= 2; what++) {
            due("none yet, what " + what, house.where(1, what), NONE);
        }
        house.copy(1, 5);
        for (int what = 0; what <= 2; what++) {
            for (int copy : outside(1, 1)) {
                due("where(" + copy + ", " + what + ")", house.where(copy, what), NONE);
            }
        }
        for (int what : outside(0, 2)) {
            due("where(1, " + what + ")", house.where(1, what), NONE);
            due("where(2, " + what + ")", house.where(2, what), NONE);
        }
        due("where(1, 0)", house.where(1, 0), OUT);
        due("where(1, 1)", house.where(1, 1), 5);
        due("where(1, 2)", house.where(1, 2), 0);
        whereTheLastIs();
    }

    private static void whereTheLastIs() {
        about("18: of copy 60, and of 61");
        House house = Scenes.full();
        due("where(60, 0)", house.where(60, 0), OUT);
        due("where(60, 1)", house.where(60, 1), 5);
        due("where(60, 2)", house.where(60, 2), 0);
        for (int what = 0; what <= 2; what++) {
            due("where(61, " + what + ")", house.where(61, what), NONE);
        }
        due("back(60, 0)", house.back(60, 0), 30);
        due("on its way", house.where(60, 0), ON_ITS_WAY);
        due("to where it goes", house.where(60, 1), 5);
        due("for its hold", house.where(60, 2), 30);
    }
}
