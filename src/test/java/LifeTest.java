import java.util.function.Consumer;

/**
 * One life of a record's holds and copies goes the same way in every house: a bar or a limit stops holds that
 * come and nothing else, and neither the day, the span, other records nor a full house stop anything of it.
 */
public final class LifeTest {
    private static final int LEAST = Integer.MIN_VALUE;
    private static final int GREATEST = Integer.MAX_VALUE;
    private static final long LAST_DAY = 1000000000L;
    private static final int KIND = 2;
    private static final int[] PICK_UP = {4, 1, 2, 3, 5};
    private static final int[] RANKS = {-3, LEAST, 0, 7, GREATEST};

    private static final Checks CHECKS = new Checks("LifeTest");

    private final String name;
    private final House house;
    private final int firstPerson;
    private final int record;
    private final int[] copies = new int[3];
    private final int[] holds = new int[PICK_UP.length];

    public static void main(String[] args) {
        goes("in a new house", 0, h -> { }, life -> { });
        goes("of a barred kind", 0, h -> { }, life -> life.house.bar(KIND, true));
        goes("with every kind barred", 35, h -> { }, LifeTest::barEveryKind);
        goes("of persons that may have none any more", 0, h -> { }, life -> life.setMost(0));
        goes("of persons that may have the most", 20, h -> { }, life -> life.setMost(20));
        goes("of persons with many holds", 0, LifeTest::manyHolds, life -> { });
        goes("of persons with many holds that may have fewer", 0, LifeTest::manyHolds, life -> life.setMost(3));
        goes("with the least span", 0, h -> h.span(1), life -> { });
        goes("with the greatest span", 0, h -> h.span(99), life -> { });
        goes("on a later day", 0, h -> h.tick(8), life -> { });
        goes("begun before a later day", 0, h -> { }, life -> life.house.tick(500));
        goes("on the last day", 0, h -> h.tick(LAST_DAY), life -> { });
        goes("begun before the last day", 0, h -> { }, life -> life.house.tick(LAST_DAY));
        goes("beside another record", 10, LifeTest::otherRecord, life -> { });
        goes("with the last numbers of a full house", 35, LifeTest::allButTheLast, LifeTest::isFull);
        CHECKS.end();
    }

    /** What the house is like before the record comes, and what changes once its holds have come. */
    private static void goes(String name, int firstPerson, Consumer<House> before, Consumer<LifeTest> after) {
        House house = new House();
        before.accept(house);
        LifeTest life = new LifeTest(name, house, firstPerson);
        after.accept(life);
        life.queue();
        life.trapping();
        life.arriving();
        life.cancelling();
        life.suspended();
        life.ending();
        life.settings();
    }

    private LifeTest(String name, House house, int firstPerson) {
        this.name = name;
        this.house = house;
        this.firstPerson = firstPerson;
        this.record = house.records() + 1;
        due("record", house.record(KIND), record);
        for (int n = 0; n < copies.length; n++) {
            copies[n] = house.copies() + 1;
            due("copy", house.copy(record, n), copies[n]);
        }
        for (int n = 0; n < holds.length; n++) {
            holds[n] = house.holds() + 1;
            due("hold", house.hold(firstPerson + n, record, PICK_UP[n], RANKS[n]), holds[n]);
        }
    }

    private void due(String what, long got, long want) {
        CHECKS.due(name + ": " + what, got, want);
    }

    private void dueHold(int n, int state, int copy, int place) {
        due("state of hold " + n, house.state(holds[n], 0), state);
        due("copy of hold " + n, house.state(holds[n], 1), copy);
        due("place in the queue of hold " + n, house.state(holds[n], 2), place);
    }

    private void dueCopy(int n, int lies, int place, int hold) {
        due("where copy " + n + " is", house.where(copies[n], 0), lies);
        due("place of copy " + n, house.where(copies[n], 1), place);
        due("hold of copy " + n, house.where(copies[n], 2), hold);
    }

    private void queue() {
        int[] queue = {1, 0, 2, 3, 4};
        for (int i = 0; i < queue.length; i++) {
            due("order " + i, house.order(record, i), holds[queue[i]]);
            dueHold(queue[i], 0, 0, i);
        }
        due("order behind the last", house.order(record, queue.length), 0);
        due("to the end, but for a greater number", house.rank(holds[0], GREATEST), 3);
        dueCopy(0, 1, 0, 0);
    }

    private void trapping() {
        due("suspend the first", house.suspend(holds[1], house.day() + 1), 1);
        due("a rank does not end that", house.rank(holds[1], -1), 0);
        due("back at the pick-up place", house.back(copies[0], 2), holds[2]);
        dueHold(2, 2, copies[0], HoldQueue.NONE);
        dueCopy(0, 3, 2, holds[2]);
        due("back at another place", house.back(copies[1], 0), holds[3]);
        dueHold(3, 1, copies[1], HoldQueue.NONE);
        dueCopy(1, 2, 3, holds[3]);
    }

    /** A copy on its way is for its hold, though another has become the first of the queue. */
    private void arriving() {
        due("the last becomes the first", house.rank(holds[4], LEAST), 0);
        due("arrive", house.arrive(copies[1]), 1);
        dueHold(3, 2, copies[1], HoldQueue.NONE);
        due("the first waits on", house.state(holds[4], 0), 0);
        due("pick", house.pick(holds[3]), copies[1]);
        dueHold(3, 3, 0, HoldQueue.NONE);
        dueCopy(1, 1, 3, 0);
    }

    private void cancelling() {
        due("cancel one READY", house.cancel(holds[2]), 1);
        dueHold(2, 5, 0, HoldQueue.NONE);
        dueHold(4, 1, copies[0], HoldQueue.NONE);
        due("cancel one IN TRANSIT", house.cancel(holds[4]), 1);
        due("the copy goes on", house.where(copies[0], 0), 2);
        due("to the same place", house.where(copies[0], 1), 5);
        due("it arrives for none", house.arrive(copies[0]), 0);
        dueHold(0, 1, copies[0], HoldQueue.NONE);
        due("it arrives for the next", house.arrive(copies[0]), 1);
        due("pick", house.pick(holds[0]), copies[0]);
    }

    private void suspended() {
        due("back beside one SUSPENDED", house.back(copies[2], 5), 0);
        due("lend", house.lend(copies[2]), 1);
        due("back again", house.back(copies[2], 0), 0);
        due("suspended no more", house.suspend(holds[1], house.day()), 1);
        dueCopy(2, 0, 0, 0);
        dueHold(1, 0, 0, 0);
        due("another copy comes back", house.back(copies[0], 1), holds[1]);
        dueHold(1, 2, copies[0], HoldQueue.NONE);
    }

    private void ending() {
        int span = house.span(7);
        due("the span again", house.span(span), 7);
        long end = house.day() + span;
        if (end < LAST_DAY) {
            due("its last day", house.tick(end), 0);
            due("the day after", house.tick(end + 1), 1);
            dueHold(1, 4, 0, HoldQueue.NONE);
        } else {
            due("picked up on the last day", house.pick(holds[1]), copies[0]);
            due("back on the last day", house.back(copies[0], 1), 0);
        }
        dueCopy(0, 0, 1, 0);
        due("the queue is empty", house.order(record, 0), 0);
        due("lend", house.lend(copies[0]), 1);
    }

    private void settings() {
        house.span(8);
        due("span", house.span(9), 8);
        house.most(firstPerson, 4);
        due("most", house.most(firstPerson, 5), 4);
        house.bar(KIND, true);
        due("bar", house.bar(KIND, false) ? 1 : 0, 1);
        due("bar no more", house.bar(KIND, true) ? 1 : 0, 0);
        due("order of none", house.order(record, 0), 0);
        due("tick back", house.tick(house.day()), HoldQueue.NONE);
    }

    private static void barEveryKind(LifeTest life) {
        for (int kind = 0; kind <= 3; kind++) {
            life.due("bar", life.house.bar(kind, true) ? 1 : 0, 0);
        }
    }

    private void setMost(int n) {
        for (int person = firstPerson; person < firstPerson + holds.length; person++) {
            house.most(person, n);
            due("most", house.most(person, n), n);
        }
    }

    /** Four records without copies, and a hold of each person 0 .. 4 on each. */
    private static void manyHolds(House house) {
        for (int record = 1; record <= 4; record++) {
            house.record(0);
            for (int person = 0; person < 5; person++) {
                house.most(person, 20);
                house.hold(person, record, 0, LEAST);
            }
        }
    }

    /** A record with a FREE copy, one on its way, and holds of the least rank that fit. */
    private static void otherRecord(House house) {
        house.record(KIND);
        house.copy(1, 0);
        house.copy(1, 0);
        house.hold(0, 1, 3, LEAST);
        house.back(1, 0);
        house.hold(1, 1, 0, LEAST);
        house.suspend(2, 1);
        house.back(2, 0);
        house.suspend(2, 0);
    }

    /** Just the last record, three copies and five holds are left to be made. */
    private static void allButTheLast(House house) {
        for (int n = 1; n <= 29; n++) {
            house.record(n % 4);
        }
        for (int n = 0; n < 57; n++) {
            house.copy(1 + n % 29, n % 6);
        }
        for (int n = 0; n < 115; n++) {
            house.most(n % 35, 20);
            house.hold(n % 35, 1 + n % 29, n % 6, 0);
        }
    }

    private static void isFull(LifeTest life) {
        life.due("the last record", life.record, 30);
        life.due("the last copy", life.copies[2], 60);
        life.due("the last hold", life.holds[4], 120);
        life.due("no more records", life.house.record(0), 0);
        life.due("no more copies", life.house.copy(1, 0), 0);
        life.due("no more holds", life.house.hold(34, 30, 0, 0), 0);
    }
}
