/** Each promise of the document by hand: ordinary inputs, the edges that it names, wrong inputs. */
public final class PromisesTest {
    private static final int FREE = 0;
    private static final int OUT = 1;
    private static final int ON_ITS_WAY = 2;
    private static final int LYING_READY = 3;

    private static final int WAITING = 0;
    private static final int IN_TRANSIT = 1;
    private static final int READY = 2;
    private static final int DONE = 3;
    private static final int EXPIRED = 4;
    private static final int CANCELLED = 5;

    private static final int[] WRONG_NUMBERS = {0, -1, 2, 61, 121, Integer.MAX_VALUE, Integer.MIN_VALUE};

    private static final Checks CHECKS = new Checks("PromisesTest");

    private static void due(String what, long got, long want) {
        CHECKS.due(what, got, want);
    }

    private static void due(String what, boolean got, boolean want) {
        CHECKS.due(what, got, want);
    }

    public static void main(String[] args) {
        promise1NewObject();
        promise2Record();
        promise3Copy();
        promise4Bar();
        promise5HoldRefused();
        promise5HoldTooMany();
        promise5HoldTrapsFreeCopy();
        promise6Most();
        promise7Suspend();
        promise8Back();
        promise9Arrive();
        promise9ArriveAfterCancel();
        promise10Pick();
        promise11Lend();
        promise12Cancel();
        promise13Tick();
        promise13TickFreesCopies();
        promise14Span();
        promise15Rank();
        promise16Order();
        promise17State();
        promise18Where();
        lastNumbersLiveAsTheFirst();
        CHECKS.end();
    }

    /** An object with one record of kind 0. */
    private static HoldQueue withRecord() {
        HoldQueue q = new HoldQueue();
        q.record(0);
        return q;
    }

    /** An object with one record and one copy of it, FREE at place 0. */
    private static HoldQueue withFreeCopy() {
        HoldQueue q = withRecord();
        q.copy(1, 0);
        q.back(1, 0);
        return q;
    }

    private static void promise1NewObject() {
        due("NONE", HoldQueue.NONE, -1);
        HoldQueue q = new HoldQueue();
        due("new: no record for a copy", q.copy(1, 0), 0);
        due("new: no record for a hold", q.hold(0, 1, 0, 0), 0);
        due("new: no queue", q.order(1, 0), 0);
        due("new: no copy", q.where(1, 0), -1);
        due("new: no hold", q.state(1, 0), -1);
        due("new: the day is 0, 0 is not later", q.tick(0), -1);
        due("new: the day is 0, 1 is later", q.tick(1), 0);
        due("new: the span is 7", q.span(7), 7);
        for (int kind = 0; kind < 4; kind++) {
            due("new: no kind is barred", q.bar(kind, false), false);
        }
        for (int person = 0; person < 40; person++) {
            due("new: a person may have 3", q.most(person, 3), 3);
        }
        HoldQueue other = withRecord();
        due("a second object has a record", other.copy(1, 0), 1);
        due("the first object has none by that", q.copy(1, 0), 0);
    }

    private static void promise2Record() {
        HoldQueue q = new HoldQueue();
        due("record(-1)", q.record(-1), 0);
        due("record(4)", q.record(4), 0);
        due("record(max)", q.record(Integer.MAX_VALUE), 0);
        due("record(min)", q.record(Integer.MIN_VALUE), 0);
        for (int n = 1; n <= 30; n++) {
            due("record number " + n, q.record(n % 4), n);
        }
        due("record number 31", q.record(0), 0);
        due("copy of record 30", q.copy(30, 0), 1);
        due("copy of record 31", q.copy(31, 0), 0);
        due("hold on record 30", q.hold(0, 30, 0, 0), 1);
        due("hold on record 31", q.hold(0, 31, 0, 0), 0);
        q.bar(29 % 4, true);
        due("record 29 has the kind it was given", q.hold(0, 29, 0, 0), 0);
        due("record 28 has another kind", q.hold(0, 28, 0, 0), 2);
    }

    private static void promise3Copy() {
        HoldQueue q = withRecord();
        for (int wrong : WRONG_NUMBERS) {
            due("copy of record " + wrong, q.copy(wrong, 0), 0);
        }
        due("copy at place -1", q.copy(1, -1), 0);
        due("copy at place 6", q.copy(1, 6), 0);
        due("copy at place max", q.copy(1, Integer.MAX_VALUE), 0);
        q.hold(0, 1, 0, 0);
        due("copy", q.copy(1, 0), 1);
        due("a new copy is OUT", q.where(1, 0), OUT);
        due("a new copy is trapped for nobody", q.where(1, 2), 0);
        due("a new copy leaves the hold WAITING", q.state(1, 0), WAITING);
        due("copy at place 5", q.copy(1, 5), 2);
        due("where copy 2 is", q.where(2, 1), 5);
        for (int n = 3; n <= 60; n++) {
            due("copy number " + n, q.copy(1, n % 6), n);
        }
        due("copy number 61", q.copy(1, 0), 0);
        due("where copy 60 is", q.where(60, 0), OUT);
        due("where copy 61 is", q.where(61, 0), -1);
    }

    private static void promise4Bar() {
        HoldQueue q = new HoldQueue();
        for (int kind = 0; kind < 4; kind++) {
            q.record(kind);
        }
        due("hold before the bar", q.hold(9, 3, 0, 0), 1);
        due("bar(2, true)", q.bar(2, true), false);
        due("bar(2, true) again", q.bar(2, true), true);
        due("hold of the barred kind", q.hold(0, 3, 0, 0), 0);
        due("hold of another kind", q.hold(0, 2, 0, 0), 2);
        due("hold of yet another kind", q.hold(0, 4, 0, 0), 3);
        q.copy(3, 0);
        due("a hold from before the bar stays", q.back(1, 0), 1);
        due("bar(2, false)", q.bar(2, false), true);
        due("bar(2, false) again", q.bar(2, false), false);
        due("hold after the bar", q.hold(0, 3, 0, 0), 4);
        for (int wrong : new int[] {-1, 4, Integer.MAX_VALUE, Integer.MIN_VALUE}) {
            due("bar(" + wrong + ", true)", q.bar(wrong, true), false);
            due("bar(" + wrong + ", true) again", q.bar(wrong, true), false);
        }
        due("bar(0, false)", q.bar(0, false), false);
        due("bar(3, true)", q.bar(3, true), false);
        due("bar(3, true) again", q.bar(3, true), true);
    }

    private static void promise5HoldRefused() {
        HoldQueue q = withRecord();
        for (int wrong : new int[] {-1, 40, Integer.MAX_VALUE, Integer.MIN_VALUE}) {
            due("hold of person " + wrong, q.hold(wrong, 1, 0, 0), 0);
        }
        for (int wrong : WRONG_NUMBERS) {
            due("hold on record " + wrong, q.hold(0, wrong, 0, 0), 0);
        }
        for (int wrong : new int[] {-1, 6, Integer.MAX_VALUE, Integer.MIN_VALUE}) {
            due("hold at place " + wrong, q.hold(0, 1, wrong, 0), 0);
        }
        due("hold of person 0", q.hold(0, 1, 0, 0), 1);
        due("second on the record at once", q.hold(0, 1, 0, 0), 0);
        due("hold of person 39 at place 5", q.hold(39, 1, 5, 0), 2);
        q.copy(1, 1);
        due("second on the record while WAITING", q.hold(0, 1, 0, 0), 0);
        q.back(1, 1);
        due("second on the record while IN TRANSIT", q.hold(0, 1, 0, 0), 0);
        q.arrive(1);
        due("second on the record while READY", q.hold(0, 1, 0, 0), 0);
        q.pick(1);
        due("again after DONE", q.hold(0, 1, 0, 0), 3);
        q.cancel(3);
        due("again after CANCELLED", q.hold(0, 1, 0, 0), 4);
        q.cancel(2);
        q.back(1, 0);
        due("hold 4 is READY", q.state(4, 0), READY);
        q.tick(8);
        due("hold 4 is EXPIRED", q.state(4, 0), EXPIRED);
        due("again after EXPIRED", q.hold(0, 1, 1, 0), 5);
        refusedAt120();
    }

    private static void refusedAt120() {
        HoldQueue q = withRecord();
        for (int n = 1; n <= 119; n++) {
            due("hold number " + n, q.hold(0, 1, 0, 0), n);
            due("cancel number " + n, q.cancel(n), 1);
        }
        due("hold number 120", q.hold(1, 1, 0, 0), 120);
        due("order of hold 120", q.order(1, 0), 120);
        due("hold number 121", q.hold(0, 1, 0, 0), 0);
        q.most(0, 0);
        due("hold number 121 of one that may have none", q.hold(0, 1, 0, 0), 0);
        due("cancel number 120", q.cancel(120), 1);
        due("an ended hold gives no room", q.hold(1, 1, 0, 0), 0);
        due("state of hold 121", q.state(121, 0), -1);
    }

    private static void promise5HoldTooMany() {
        HoldQueue q = new HoldQueue();
        for (int n = 0; n < 6; n++) {
            q.record(n == 5 ? 1 : 0);
        }
        q.bar(1, true);
        q.copy(1, 0);
        q.copy(2, 0);
        q.back(1, 0);
        q.back(2, 0);
        due("a first, READY", q.hold(0, 1, 0, 0), 1);
        due("a second, IN TRANSIT", q.hold(0, 2, 1, 0), 2);
        due("a third, WAITING", q.hold(0, 3, 0, 0), 3);
        due("states", q.state(1, 0) * 100 + q.state(2, 0) * 10 + q.state(3, 0), READY * 100 + IN_TRANSIT * 10);
        due("a fourth", q.hold(0, 4, 0, 0), -1);
        due("another person's first", q.hold(1, 4, 0, 0), 4);
        due("0 goes before -1: the same record", q.hold(0, 3, 0, 0), 0);
        due("0 goes before -1: a barred kind", q.hold(0, 6, 0, 0), 0);
        due("0 goes before -1: a wrong place", q.hold(0, 4, 6, 0), 0);
        due("0 goes before -1: a wrong record", q.hold(0, 7, 0, 0), 0);
        due("nothing was added by these", q.order(4, 1), 0);
        q.pick(1);
        due("one more after DONE", q.hold(0, 4, 0, 0), 5);
        due("and no more", q.hold(0, 5, 0, 0), -1);
        q.cancel(2);
        due("one more after CANCELLED on the way", q.hold(0, 5, 0, 0), 6);
        due("and no more again", q.hold(0, 1, 0, 0), -1);
        q.most(0, 2);
        q.cancel(6);
        due("as many as it may, after most fell", q.hold(0, 5, 0, 0), -1);
    }

    private static void promise5HoldTrapsFreeCopy() {
        HoldQueue q = withRecord();
        q.record(0);
        q.copy(2, 0);
        q.copy(1, 0);
        q.copy(1, 1);
        q.copy(1, 1);
        q.back(1, 0);
        q.back(4, 1);
        q.back(3, 1);
        due("hold with copies 3 and 4 FREE", q.hold(0, 1, 1, 0), 1);
        due("the least number is trapped", q.state(1, 1), 3);
        due("at its place it is READY", q.state(1, 0), READY);
        due("the other stays FREE", q.where(4, 0), FREE);
        due("another record's stays FREE", q.where(1, 0), FREE);
        due("hold at another place", q.hold(1, 1, 2, 0), 2);
        due("copy 4 is trapped for it", q.state(2, 1), 4);
        due("it is IN TRANSIT", q.state(2, 0), IN_TRANSIT);
        due("no copy FREE: WAITING", q.hold(2, 1, 2, 0), 3);
        due("its state", q.state(3, 0), WAITING);
        trapsAnotherHold();
    }

    private static void trapsAnotherHold() {
        HoldQueue q = withRecord();
        q.copy(1, 0);
        q.copy(1, 0);
        q.hold(0, 1, 0, 5);
        q.suspend(1, 10);
        due("back with the one hold SUSPENDED", q.back(1, 0), 0);
        due("back of the other copy", q.back(2, 0), 0);
        q.tick(10);
        due("the copy stays FREE when the suspension ends", q.where(1, 0), FREE);
        due("a hold comes", q.hold(1, 1, 0, 5), 2);
        due("the first that fits is the other hold", q.where(1, 2), 1);
        due("the new one is WAITING", q.state(2, 0), WAITING);
        due("just one copy is trapped", q.where(2, 0), FREE);
        due("a hold of less rank comes", q.hold(2, 1, 0, 4), 3);
        due("it is the first", q.where(2, 2), 3);
    }

    private static void promise6Most() {
        HoldQueue q = new HoldQueue();
        for (int n = 1; n <= 22; n++) {
            q.record(0);
        }
        due("most(39, 20)", q.most(39, 20), 3);
        due("most(0, 1)", q.most(0, 1), 3);
        for (int wrong : new int[] {-1, 40, Integer.MAX_VALUE, Integer.MIN_VALUE}) {
            due("most(" + wrong + ", 1)", q.most(wrong, 1), -1);
        }
        for (int wrong : new int[] {-1, 21, Integer.MAX_VALUE, Integer.MIN_VALUE}) {
            due("most(0, " + wrong + ")", q.most(0, wrong), -1);
        }
        for (int n = 1; n <= 20; n++) {
            due("hold " + n + " of 20", q.hold(39, n, 0, 0), n);
        }
        due("hold 21 of 20", q.hold(39, 21, 0, 0), -1);
        due("hold 1 of 1", q.hold(0, 1, 0, 0), 21);
        due("hold 2 of 1", q.hold(0, 2, 0, 0), -1);
        due("most(0, 0)", q.most(0, 0), 1);
        due("what it has stays", q.state(21, 0), WAITING);
        due("most(0, 2)", q.most(0, 2), 0);
        due("hold 2 of 2", q.hold(0, 2, 0, 0), 22);
    }

    private static void promise7Suspend() {
        HoldQueue q = withRecord();
        q.copy(1, 0);
        q.hold(0, 1, 0, 0);
        q.hold(1, 1, 0, 0);
        for (int wrong : new int[] {0, -1, 3, 121, Integer.MAX_VALUE, Integer.MIN_VALUE}) {
            due("suspend(" + wrong + ", 5)", q.suspend(wrong, 5), 0);
        }
        due("suspend(1, 1)", q.suspend(1, 1), 1);
        due("a suspended hold stays in the queue", q.order(1, 0), 1);
        due("its place in the queue", q.state(1, 2), 0);
        due("it is still WAITING", q.state(1, 0), WAITING);
        due("the copy goes to the next", q.back(1, 0), 2);
        due("suspend a READY hold", q.suspend(2, 5), 0);
        q.pick(2);
        due("suspend a DONE hold", q.suspend(2, 5), 0);
        due("suspended on the day below", q.back(1, 0), 0);
        q.lend(1);
        q.tick(1);
        due("not suspended on the day itself", q.back(1, 0), 1);
        q.cancel(1);
        due("suspend a CANCELLED hold", q.suspend(1, 5), 0);
        suspendedNoMore();
    }

    private static void suspendedNoMore() {
        for (long until : new long[] {0, 3, -1, Long.MIN_VALUE}) {
            HoldQueue q = withRecord();
            q.copy(1, 0);
            q.tick(3);
            q.hold(0, 1, 1, 0);
            due("suspend for ever", q.suspend(1, Long.MAX_VALUE), 1);
            due("it is suspended", q.back(1, 0), 0);
            due("suspend(1, " + until + ")", q.suspend(1, until), 1);
            due("the FREE copy stays so", q.where(1, 0), FREE);
            due("the hold stays WAITING", q.state(1, 0), WAITING);
            q.lend(1);
            due("it is suspended no more", q.back(1, 0), 1);
            due("suspend a hold IN TRANSIT", q.suspend(1, 9), 0);
        }
    }

    private static void promise8Back() {
        HoldQueue q = withRecord();
        q.record(0);
        due("copy 1", q.copy(1, 0), 1);
        for (int wrong : WRONG_NUMBERS) {
            due("back(" + wrong + ", 0)", q.back(wrong, 0), -1);
        }
        for (int wrong : new int[] {-1, 6, Integer.MAX_VALUE, Integer.MIN_VALUE}) {
            due("back(1, " + wrong + ")", q.back(1, wrong), -1);
        }
        due("a wrong place leaves the copy OUT", q.where(1, 0), OUT);
        q.hold(5, 2, 5, -9);
        due("back at place 5 without a hold on its record", q.back(1, 5), 0);
        due("it is FREE", q.where(1, 0), FREE);
        due("it is at place 5", q.where(1, 1), 5);
        due("back while FREE", q.back(1, 0), -1);
        due("place after the refused back", q.where(1, 1), 5);
        q.lend(1);
        q.hold(0, 1, 1, 7);
        q.hold(1, 1, 2, Integer.MIN_VALUE);
        q.hold(2, 1, 3, Integer.MIN_VALUE);
        q.hold(3, 1, 3, Integer.MAX_VALUE);
        due("back: the least rank, then the least number", q.back(1, 3), 3);
        due("it is on its way", q.where(1, 0), ON_ITS_WAY);
        due("back while on its way", q.back(1, 2), -1);
        q.arrive(1);
        due("back while ready", q.back(1, 2), -1);
        q.pick(3);
        due("back at the pick-up place", q.back(1, 3), 4);
        due("READY at once", q.state(4, 0), READY);
        q.pick(4);
        due("back: rank 7 goes before the greatest", q.back(1, 0), 2);
    }

    private static void promise9Arrive() {
        HoldQueue q = withRecord();
        q.copy(1, 0);
        for (int wrong : WRONG_NUMBERS) {
            due("arrive(" + wrong + ")", q.arrive(wrong), -1);
        }
        due("arrive while OUT", q.arrive(1), -1);
        q.back(1, 0);
        due("arrive while FREE", q.arrive(1), -1);
        q.hold(0, 1, 4, 0);
        q.tick(50);
        due("a hold IN TRANSIT does not expire", q.state(1, 0), IN_TRANSIT);
        q.span(2);
        due("arrive", q.arrive(1), 1);
        due("the hold is READY", q.state(1, 0), READY);
        due("the copy is ready", q.where(1, 0), LYING_READY);
        due("at the pick-up place", q.where(1, 1), 4);
        due("for the hold", q.where(1, 2), 1);
        due("the copy of the hold", q.state(1, 1), 1);
        due("arrive while ready", q.arrive(1), -1);
        due("the end counts from the day of arrival: not yet", q.tick(52), 0);
        due("the end counts from the day of arrival", q.tick(53), 1);
    }

    private static void promise9ArriveAfterCancel() {
        HoldQueue q = withFreeCopy();
        q.hold(0, 1, 4, 0);
        q.cancel(1);
        due("cancelled on the way, no other hold", q.arrive(1), 0);
        due("FREE", q.where(1, 0), FREE);
        due("where the hold was to be picked up", q.where(1, 1), 4);
        due("for nobody", q.where(1, 2), 0);
        due("no copy for the cancelled hold", q.state(1, 1), 0);
        due("state of the cancelled hold", q.state(1, 0), CANCELLED);
        q.hold(0, 1, 3, 0);
        q.hold(1, 1, 3, 1);
        q.hold(2, 1, 2, 1);
        q.cancel(2);
        due("cancelled on the way, one at that place", q.arrive(1), 0);
        due("READY at once", q.state(3, 0), READY);
        q.pick(3);
        q.back(1, 0);
        q.hold(5, 1, 1, 0);
        q.cancel(4);
        due("cancelled on the way, one at another place", q.arrive(1), 0);
        due("IN TRANSIT anew", q.state(5, 0), IN_TRANSIT);
        due("to its place", q.where(1, 1), 1);
        due("and it arrives", q.arrive(1), 1);
    }

    private static void promise10Pick() {
        HoldQueue q = withRecord();
        q.copy(1, 0);
        q.copy(1, 0);
        q.hold(0, 1, 3, 0);
        for (int wrong : WRONG_NUMBERS) {
            due("pick(" + wrong + ")", q.pick(wrong), 0);
        }
        due("pick while WAITING", q.pick(1), 0);
        q.back(2, 1);
        due("pick while IN TRANSIT", q.pick(1), 0);
        q.arrive(2);
        due("pick", q.pick(1), 2);
        due("the hold is DONE", q.state(1, 0), DONE);
        due("no copy is TRAPPED for it", q.state(1, 1), 0);
        due("the copy is OUT", q.where(2, 0), OUT);
        due("and for no hold", q.where(2, 2), 0);
        due("pick while DONE", q.pick(1), 0);
        q.hold(0, 1, 3, 0);
        q.cancel(2);
        due("pick while CANCELLED", q.pick(2), 0);
        q.hold(0, 1, 3, 0);
        due("the picked copy comes back", q.back(2, 3), 3);
        q.tick(100);
        due("pick while EXPIRED", q.pick(3), 0);
    }

    private static void promise11Lend() {
        HoldQueue q = withRecord();
        q.copy(1, 2);
        for (int wrong : WRONG_NUMBERS) {
            due("lend(" + wrong + ")", q.lend(wrong), 0);
        }
        due("lend while OUT", q.lend(1), 0);
        q.back(1, 2);
        due("lend", q.lend(1), 1);
        due("it is OUT", q.where(1, 0), OUT);
        due("a lent copy is not FREE for a hold", q.hold(0, 1, 3, 0), 1);
        due("which is WAITING", q.state(1, 0), WAITING);
        q.back(1, 2);
        due("lend while on its way", q.lend(1), 0);
        q.arrive(1);
        due("lend while ready", q.lend(1), 0);
        due("still ready", q.where(1, 0), LYING_READY);
    }

    private static void promise12Cancel() {
        HoldQueue q = withRecord();
        q.copy(1, 0);
        q.hold(0, 1, 0, 0);
        for (int wrong : WRONG_NUMBERS) {
            due("cancel(" + wrong + ")", q.cancel(wrong), 0);
        }
        due("cancel while WAITING", q.cancel(1), 1);
        due("its state", q.state(1, 0), CANCELLED);
        due("the queue is empty", q.order(1, 0), 0);
        due("cancel while CANCELLED", q.cancel(1), 0);
        due("it fits no more", q.back(1, 0), 0);
        q.hold(0, 1, 0, 0);
        q.hold(1, 1, 0, 0);
        q.hold(2, 1, 1, 0);
        due("cancel while READY", q.cancel(2), 1);
        due("its copy goes to the next", q.where(1, 2), 3);
        due("none for the cancelled", q.state(2, 1), 0);
        due("READY at the same place", q.state(3, 0), READY);
        due("cancel the next", q.cancel(3), 1);
        due("its copy goes to another place", q.state(4, 0), IN_TRANSIT);
        due("cancel while IN TRANSIT", q.cancel(4), 1);
        due("its state then", q.state(4, 0), CANCELLED);
        due("the copy goes on", q.where(1, 0), ON_ITS_WAY);
        due("to the same place", q.where(1, 1), 1);
        due("it is not FREE for a hold", q.hold(3, 1, 0, 0), 5);
        due("which waits", q.state(5, 0), WAITING);
        q.arrive(1);
        q.arrive(1);
        q.cancel(5);
        due("a copy that lay ready is FREE without a hold", q.where(1, 0), FREE);
        endedHoldsAreNotCancelled();
    }

    private static void endedHoldsAreNotCancelled() {
        HoldQueue q = withFreeCopy();
        q.hold(0, 1, 0, 0);
        q.pick(1);
        due("cancel while DONE", q.cancel(1), 0);
        due("it stays DONE", q.state(1, 0), DONE);
        q.back(1, 0);
        q.hold(0, 1, 0, 0);
        q.tick(8);
        due("cancel while EXPIRED", q.cancel(2), 0);
        due("it stays EXPIRED", q.state(2, 0), EXPIRED);
        due("its copy stays FREE", q.where(1, 0), FREE);
    }

    private static void promise13Tick() {
        HoldQueue q = withFreeCopy();
        q.hold(0, 1, 0, 0);
        due("tick(-1)", q.tick(-1), -1);
        due("tick(min)", q.tick(Long.MIN_VALUE), -1);
        due("tick(max)", q.tick(Long.MAX_VALUE), -1);
        due("tick(1000000001)", q.tick(1000000001L), -1);
        due("tick(2^32 + 1)", q.tick(4294967297L), -1);
        due("nothing happened", q.state(1, 0), READY);
        due("tick(7): the end itself", q.tick(7), 0);
        due("still READY", q.state(1, 0), READY);
        due("tick(7) again", q.tick(7), -1);
        due("tick(6)", q.tick(6), -1);
        due("tick(8)", q.tick(8), 1);
        due("EXPIRED", q.state(1, 0), EXPIRED);
        due("no copy for it", q.state(1, 1), 0);
        due("its copy is FREE", q.where(1, 0), FREE);
        due("and for no hold", q.where(1, 2), 0);
        due("tick(9): it expires just once", q.tick(9), 0);
        due("tick(1000000000)", q.tick(1000000000L), 0);
        due("tick(1000000000) again", q.tick(1000000000L), -1);
        q.hold(0, 1, 0, 0);
        due("READY on the last day", q.state(2, 0), READY);
    }

    private static void promise13TickFreesCopies() {
        HoldQueue q = withRecord();
        q.copy(1, 0);
        q.copy(1, 0);
        q.hold(0, 1, 0, 9);
        q.hold(1, 1, 0, 3);
        q.back(2, 0);
        q.back(1, 0);
        due("copy 2 for hold 2", q.state(2, 1), 2);
        due("copy 1 for hold 1", q.state(1, 1), 1);
        q.hold(2, 1, 0, 0);
        q.suspend(3, 8);
        q.hold(3, 1, 1, 0);
        q.hold(4, 1, 0, 5);
        due("both expire", q.tick(8), 2);
        due("hold 1 first: its copy to hold 3, suspended no more on the new day", q.state(3, 1), 1);
        due("hold 2 then: its copy to hold 4", q.state(4, 1), 2);
        due("hold 3 is READY", q.state(3, 0), READY);
        due("hold 4 is IN TRANSIT", q.state(4, 0), IN_TRANSIT);
        due("hold 5 is WAITING", q.state(5, 0), WAITING);
        due("the new end counts from the new day: not yet", q.tick(15), 0);
        due("the new end counts from the new day", q.tick(16), 1);
        due("and the copy went on to hold 5", q.state(5, 1), 1);
    }

    private static void promise14Span() {
        HoldQueue q = withRecord();
        q.copy(1, 0);
        q.copy(1, 0);
        q.hold(0, 1, 0, 0);
        q.hold(1, 1, 0, 0);
        q.back(1, 0);
        for (int wrong : new int[] {0, -1, 100, Integer.MAX_VALUE, Integer.MIN_VALUE}) {
            due("span(" + wrong + ")", q.span(wrong), -1);
        }
        due("span(99)", q.span(99), 7);
        q.back(2, 0);
        due("span(1)", q.span(1), 99);
        due("span(1) again", q.span(1), 1);
        due("the day 7", q.tick(7), 0);
        due("what was READY keeps its end", q.tick(8), 1);
        due("hold 1 it was", q.state(1, 0), EXPIRED);
        due("a hold with the span 1", q.hold(2, 1, 0, 0), 3);
        due("the day 9", q.tick(9), 0);
        due("the day 10", q.tick(10), 1);
        due("the day 99", q.tick(99), 0);
        due("the day 100", q.tick(100), 1);
    }

    private static void promise15Rank() {
        HoldQueue q = withRecord();
        q.record(0);
        q.copy(1, 0);
        q.hold(9, 2, 0, -100);
        for (int person = 0; person < 4; person++) {
            q.hold(person, 1, 0, 10);
        }
        for (int wrong : new int[] {0, -1, 6, 121, Integer.MAX_VALUE, Integer.MIN_VALUE}) {
            due("rank(" + wrong + ", 1)", q.rank(wrong, 1), -1);
        }
        due("the same rank", q.rank(4, 10), 2);
        due("a greater rank", q.rank(2, 11), 3);
        due("the greatest rank", q.rank(3, Integer.MAX_VALUE), 3);
        due("the least rank", q.rank(5, Integer.MIN_VALUE), 0);
        due("an equal rank, a smaller number", q.rank(2, 10), 1);
        due("an equal rank, a greater number", q.rank(5, 10), 2);
        q.suspend(2, 9);
        due("behind a suspended one", q.rank(4, 10), 1);
        due("of a suspended one", q.rank(2, 12), 2);
        due("the copy goes to the first then", q.back(1, 0), 4);
        due("rank while READY", q.rank(4, 0), -1);
        q.pick(4);
        due("rank while DONE", q.rank(4, 0), -1);
        q.cancel(3);
        due("rank while CANCELLED", q.rank(3, 0), -1);
        q.back(1, 1);
        due("rank while IN TRANSIT", q.rank(5, 0), -1);
        q.arrive(1);
        q.tick(8);
        due("rank while EXPIRED", q.rank(5, 0), -1);
        due("the other record's queue has one", q.rank(1, 5), 0);
    }

    private static void promise16Order() {
        HoldQueue q = withRecord();
        q.record(0);
        q.copy(1, 0);
        int[] ranks = {4, Integer.MAX_VALUE, -4, 4, Integer.MIN_VALUE, 0};
        for (int n = 0; n < ranks.length; n++) {
            q.hold(n, 1, 0, ranks[n]);
        }
        q.hold(0, 2, 0, 0);
        int[] queue = {5, 3, 6, 1, 4, 2};
        for (int n = 0; n < queue.length; n++) {
            due("order(1, " + n + ")", q.order(1, n), queue[n]);
        }
        for (int wrong : new int[] {6, 7, -1, Integer.MAX_VALUE, Integer.MIN_VALUE}) {
            due("order(1, " + wrong + ")", q.order(1, wrong), 0);
        }
        due("order(2, 0)", q.order(2, 0), 7);
        due("order(2, 1)", q.order(2, 1), 0);
        for (int wrong : new int[] {0, -1, 3, 31, Integer.MAX_VALUE, Integer.MIN_VALUE}) {
            due("order(" + wrong + ", 0)", q.order(wrong, 0), 0);
        }
        q.suspend(3, 100);
        due("a suspended one stays", q.order(1, 1), 3);
        q.back(1, 0);
        due("one that is READY leaves", q.order(1, 0), 3);
        q.cancel(6);
        due("one that is CANCELLED leaves", q.order(1, 1), 1);
        q.rank(2, -5);
        due("a rank moves it", q.order(1, 0), 2);
        due("as many as WAITING", q.order(1, 3), 4);
        due("and no more", q.order(1, 4), 0);
    }

    private static void promise17State() {
        HoldQueue q = withRecord();
        q.copy(1, 0);
        q.hold(0, 1, 1, 0);
        q.hold(1, 1, 1, 0);
        for (int what = -1; what <= 3; what++) {
            for (int wrong : new int[] {0, -1, 3, 121, Integer.MAX_VALUE, Integer.MIN_VALUE}) {
                due("state(" + wrong + ", " + what + ")", q.state(wrong, what), -1);
            }
        }
        for (int wrong : new int[] {-1, 3, Integer.MAX_VALUE, Integer.MIN_VALUE}) {
            due("state(1, " + wrong + ")", q.state(1, wrong), -1);
        }
        dueState(q, 1, WAITING, 0, 0);
        dueState(q, 2, WAITING, 0, 1);
        q.back(1, 0);
        dueState(q, 1, IN_TRANSIT, 1, -1);
        dueState(q, 2, WAITING, 0, 0);
        q.arrive(1);
        dueState(q, 1, READY, 1, -1);
        q.pick(1);
        dueState(q, 1, DONE, 0, -1);
        q.back(1, 1);
        q.tick(8);
        dueState(q, 2, EXPIRED, 0, -1);
        q.hold(0, 1, 0, 0);
        q.cancel(3);
        // The copy goes on, TRAPPED for the cancelled hold until it arrives.
        dueState(q, 3, CANCELLED, 1, -1);
        q.arrive(1);
        dueState(q, 3, CANCELLED, 0, -1);
    }

    private static void dueState(HoldQueue q, int hold, int state, int copy, int place) {
        due("state(" + hold + ", 0)", q.state(hold, 0), state);
        due("state(" + hold + ", 1)", q.state(hold, 1), copy);
        due("state(" + hold + ", 2)", q.state(hold, 2), place);
    }

    private static void promise18Where() {
        HoldQueue q = withRecord();
        q.copy(1, 3);
        for (int what = -1; what <= 3; what++) {
            for (int wrong : WRONG_NUMBERS) {
                due("where(" + wrong + ", " + what + ")", q.where(wrong, what), -1);
            }
        }
        for (int wrong : new int[] {-1, 3, Integer.MAX_VALUE, Integer.MIN_VALUE}) {
            due("where(1, " + wrong + ")", q.where(1, wrong), -1);
        }
        dueWhere(q, OUT, 3, 0);
        q.back(1, 4);
        dueWhere(q, FREE, 4, 0);
        q.hold(0, 1, 2, 0);
        dueWhere(q, ON_ITS_WAY, 2, 1);
        q.arrive(1);
        dueWhere(q, LYING_READY, 2, 1);
        q.pick(1);
        dueWhere(q, OUT, 2, 0);
        q.hold(1, 1, 5, 0);
        q.back(1, 0);
        dueWhere(q, ON_ITS_WAY, 5, 2);
        q.cancel(2);
        // Its hold is the cancelled one until it arrives, as promise 9 calls it.
        dueWhere(q, ON_ITS_WAY, 5, 2);
        q.arrive(1);
        dueWhere(q, FREE, 5, 0);
        q.lend(1);
        dueWhere(q, OUT, 5, 0);
    }

    private static void dueWhere(HoldQueue q, int state, int place, int hold) {
        due("where(1, 0)", q.where(1, 0), state);
        due("where(1, 1)", q.where(1, 1), place);
        due("where(1, 2)", q.where(1, 2), hold);
    }

    /** The last record, copy, person, place and hold go through what the first ones do. */
    private static void lastNumbersLiveAsTheFirst() {
        HoldQueue q = new HoldQueue();
        for (int n = 1; n <= 30; n++) {
            q.record(3);
        }
        for (int n = 1; n <= 60; n++) {
            q.copy(30, 5);
        }
        for (int n = 1; n <= 119; n++) {
            q.hold(39, 30, 5, 0);
            q.cancel(n);
        }
        due("the last hold", q.hold(39, 30, 5, Integer.MAX_VALUE), 120);
        due("suspend the last hold", q.suspend(120, 3), 1);
        due("the last copy back while it is suspended", q.back(60, 4), 0);
        due("lend the last copy", q.lend(60), 1);
        due("rank of the last hold", q.rank(120, 5), 0);
        due("order of the last record", q.order(30, 0), 120);
        due("the day 3", q.tick(3), 0);
        due("the last copy back", q.back(60, 4), 120);
        due("the copy of the last hold", q.state(120, 1), 60);
        due("the hold of the last copy", q.where(60, 2), 120);
        due("the last copy arrives", q.arrive(60), 1);
        due("the last hold does not expire yet", q.tick(10), 0);
        due("the last hold expires", q.tick(11), 1);
        due("the last copy is FREE", q.where(60, 0), FREE);
        due("where it arrived", q.where(60, 1), 5);
    }
}
