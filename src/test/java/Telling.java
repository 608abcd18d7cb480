import java.util.ArrayList;
import java.util.List;
import java.util.function.IntConsumer;
import java.util.function.LongSupplier;
import java.util.stream.IntStream;

/**
 * What a house answers to a fixed row of calls that brings out all it keeps: what can be looked at, the
 * settings, the next numbers, then ends and suspensions day by day. Two houses in the same state tell the same.
 */
final class Telling {
    private static final int DAYS = 9;
    private static final int LONGEST_QUEUE = 8;

    private final House house;
    private final List<String> lines = new ArrayList<>();
    // Counted before the first call: what is made while telling must not lengthen the telling.
    private final int records;
    private final int copies;
    private final int holds;

    private Telling(House house) {
        this.house = house;
        this.records = house.records();
        this.copies = house.copies();
        this.holds = house.holds();
    }

    static List<String> of(House house) {
        Telling telling = new Telling(house);
        // The shortest looks come first: in a full house, the calls don't reach to the end of the row.
        telling.look(0, 1);
        telling.settings();
        telling.look(1, 0);
        telling.look(2, LONGEST_QUEUE);
        telling.nextOnes();
        upTo(DAYS, n -> telling.nextDay());
        telling.lastDay();
        return telling.lines;
    }

    private void look(int what, int queueLength) {
        upTo(holds, hold -> ask("state(" + hold + ", " + what + ")", () -> house.state(hold, what)));
        upTo(copies, copy -> ask("where(" + copy + ", " + what + ")", () -> house.where(copy, what)));
        upTo(records, record -> upTo(queueLength,
                n -> ask("order(" + record + ", " + (n - 1) + ")", () -> house.order(record, n - 1))));
    }

    private void settings() {
        ask("span(3)", () -> house.span(3));
        upTo(4, n -> ask("bar(" + (n - 1) + ", false)", () -> house.bar(n - 1, false) ? 1 : 0));
        upTo(40, n -> ask("most(" + (n - 1) + ", 20)", () -> house.most(n - 1, 20)));
    }

    private void nextOnes() {
        upTo(records, record -> ask("hold(38, " + record + ", 0, 9)", () -> house.hold(38, record, 0, 9)));
        upTo(copies, copy -> ask("where(" + copy + ", 2)", () -> house.where(copy, 2)));
        ask("copy(1, 0)", () -> house.copy(1, 0));
        ask("record(0)", () -> house.record(0));
    }

    private void nextDay() {
        long next = house.day() + 1;
        ask("tick(" + next + ")", () -> house.tick(next));
        upTo(copies, copy -> ask("lend(" + copy + ")", () -> house.lend(copy)));
        upTo(copies, copy -> ask("back(" + copy + ", 0)", () -> house.back(copy, 0)));
    }

    private void lastDay() {
        upTo(copies, copy -> ask("arrive(" + copy + ")", () -> house.arrive(copy)));
        upTo(holds, hold -> ask("state(" + hold + ", 0)", () -> house.state(hold, 0)));
        ask("tick(1000000000)", () -> house.tick(1000000000L));
    }

    private static void upTo(int last, IntConsumer each) {
        IntStream.rangeClosed(1, last).forEach(each);
    }

    private void ask(String call, LongSupplier made) {
        if (house.hasCallsLeft()) {
            lines.add(call + " = " + made.getAsLong());
        }
    }
}
