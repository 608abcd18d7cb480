import java.util.Random;

/** Long runs of calls, the same ones for each seed, on HoldQueue and on PlainModel side by side. */
public final class ModelTest {
    private static final int RUNS = 1500;
    private static final int CALLS = 512;
    private static final int MOST_WRONG = 20;
    private static final int[] EDGES = {Integer.MIN_VALUE, -2, -1, 0, 1, 3, 4, 5, 6, 20, 21, 29, 30, 31, 39, 40,
        59, 60, 61, 99, 100, 119, 120, 121, Integer.MAX_VALUE};
    private static final long[] EDGE_DAYS = {Long.MIN_VALUE, -1, 0, 1, 999999990L, 1000000000L, 1000000001L,
        4294967297L, Long.MAX_VALUE};

    private final Checks checks;
    private final Random random;
    private final HoldQueue queue = new HoldQueue();
    private final PlainModel model = new PlainModel();
    private final String run;
    private final int mostRecords;
    private final int persons;
    private final int places;
    private final int wildPercent;
    private final int fillingCalls;
    private int records = 0;
    private int copies = 0;
    private int holds = 0;
    private long day = 0;

    private ModelTest(Checks checks, int seed) {
        this.checks = checks;
        this.random = new Random(seed);
        this.run = "run " + seed + ": ";
        // Few records and places make long queues, many make the limits: both kinds of run are wanted.
        this.mostRecords = 1 + random.nextInt(seed % 3 == 0 ? 40 : 4);
        this.fillingCalls = seed % 4 == 0 ? 300 : 0;
        this.persons = fillingCalls > 0 ? 40 : 5 + random.nextInt(36);
        this.places = 1 + random.nextInt(6);
        this.wildPercent = seed % 5 == 0 ? 20 : 2;
    }

    public static void main(String[] args) {
        Checks checks = new Checks("ModelTest");
        for (int seed = 1; seed <= RUNS && checks.wrong() < MOST_WRONG; seed++) {
            ModelTest test = new ModelTest(checks, seed);
            for (int n = 0; n < CALLS; n++) {
                if (n < test.fillingCalls) {
                    test.fill();
                } else {
                    test.makeCall();
                }
            }
        }
        checks.end();
    }

    /** A call that makes more: a run of these comes to the last copy and the last hold. */
    private void fill() {
        int choice = random.nextInt(10);
        if (choice < 2) {
            record();
        } else if (choice < 5) {
            copy();
        } else {
            hold();
        }
    }

    private void makeCall() {
        int choice = random.nextInt(100);
        if (choice < 8) {
            record();
        } else if (choice < 14) {
            copy();
        } else if (choice < 34) {
            hold();
        } else if (choice < 46) {
            back();
        } else if (choice < 67) {
            changeHoldOrCopy(choice);
        } else if (choice < 75) {
            changeHouse(choice);
        } else {
            look(choice);
        }
    }

    private void changeHoldOrCopy(int choice) {
        if (choice < 49) {
            suspend();
        } else if (choice < 54) {
            arrive();
        } else if (choice < 58) {
            pick();
        } else if (choice < 61) {
            lend();
        } else if (choice < 64) {
            cancel();
        } else {
            rank();
        }
    }

    private void changeHouse(int choice) {
        if (choice < 68) {
            bar();
        } else if (choice < 70) {
            most();
        } else if (choice < 73) {
            tick();
        } else {
            span();
        }
    }

    private void look(int choice) {
        if (choice < 82) {
            order();
        } else if (choice < 91) {
            state();
        } else {
            where();
        }
    }

    private void record() {
        if (records >= mostRecords) {
            hold();
            return;
        }
        int kind = number(0, 3);
        int due = model.record(kind);
        records = Math.max(records, due);
        checks.due(run + "record(" + kind + ")", queue.record(kind), due);
    }

    private void copy() {
        int record = number(1, records);
        int place = number(0, places - 1);
        int due = model.copy(record, place);
        copies = Math.max(copies, due);
        checks.due(run + "copy(" + record + ", " + place + ")", queue.copy(record, place), due);
    }

    private void hold() {
        int person = number(0, persons - 1);
        int record = number(1, records);
        int place = number(0, places - 1);
        int rank = anyRank();
        int due = model.hold(person, record, place, rank);
        holds = Math.max(holds, due);
        checks.due(run + "hold(" + person + ", " + record + ", " + place + ", " + rank + ")",
                queue.hold(person, record, place, rank), due);
    }

    private void back() {
        int copy = number(1, copies);
        int place = number(0, places - 1);
        checks.due(run + "back(" + copy + ", " + place + ")", queue.back(copy, place), model.back(copy, place));
    }

    private void suspend() {
        int hold = number(1, holds);
        long until = anyDay(6);
        checks.due(run + "suspend(" + hold + ", " + until + ")", queue.suspend(hold, until),
                model.suspend(hold, until));
    }

    private void arrive() {
        int copy = number(1, copies);
        checks.due(run + "arrive(" + copy + ")", queue.arrive(copy), model.arrive(copy));
    }

    private void pick() {
        int hold = number(1, holds);
        checks.due(run + "pick(" + hold + ")", queue.pick(hold), model.pick(hold));
    }

    private void lend() {
        int copy = number(1, copies);
        checks.due(run + "lend(" + copy + ")", queue.lend(copy), model.lend(copy));
    }

    private void cancel() {
        int hold = number(1, holds);
        checks.due(run + "cancel(" + hold + ")", queue.cancel(hold), model.cancel(hold));
    }

    private void rank() {
        int hold = number(1, holds);
        int rank = anyRank();
        checks.due(run + "rank(" + hold + ", " + rank + ")", queue.rank(hold, rank), model.rank(hold, rank));
    }

    private void bar() {
        int kind = number(0, 3);
        boolean on = random.nextInt(4) == 0;
        checks.due(run + "bar(" + kind + ", " + on + ")", queue.bar(kind, on), model.bar(kind, on));
    }

    private void most() {
        int person = number(0, persons - 1);
        int n = number(0, 20);
        checks.due(run + "most(" + person + ", " + n + ")", queue.most(person, n), model.most(person, n));
    }

    private void tick() {
        long to = anyDay(5);
        int due = model.tick(to);
        if (due >= 0) {
            day = to;
        }
        checks.due(run + "tick(" + to + ")", queue.tick(to), due);
    }

    private void span() {
        int days = number(1, 8);
        checks.due(run + "span(" + days + ")", queue.span(days), model.span(days));
    }

    private void order() {
        int record = number(1, records);
        int i = number(0, 6);
        checks.due(run + "order(" + record + ", " + i + ")", queue.order(record, i), model.order(record, i));
    }

    private void state() {
        int hold = number(1, holds);
        int what = number(0, 2);
        checks.due(run + "state(" + hold + ", " + what + ")", queue.state(hold, what), model.state(hold, what));
    }

    private void where() {
        int copy = number(1, copies);
        int what = number(0, 2);
        checks.due(run + "where(" + copy + ", " + what + ")", queue.where(copy, what), model.where(copy, what));
    }

    /** A number between two, or now and then one from the edges. */
    private int number(int from, int to) {
        if (to < from || random.nextInt(100) < wildPercent) {
            return EDGES[random.nextInt(EDGES.length)];
        }
        return from + random.nextInt(to - from + 1);
    }

    private long anyDay(int ahead) {
        if (random.nextInt(100) < wildPercent) {
            return EDGE_DAYS[random.nextInt(EDGE_DAYS.length)];
        }
        return day + random.nextInt(ahead + 1);
    }

    private int anyRank() {
        return random.nextInt(10) == 0 ? EDGES[random.nextInt(EDGES.length)] : random.nextInt(5);
    }
}
