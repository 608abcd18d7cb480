import java.util.ArrayList;
import java.util.Comparator;
import java.util.HashMap;
import java.util.HashSet;
import java.util.List;
import java.util.Map;
import java.util.Set;

/** The document told a second time, with the Java library, to hold against HoldQueue in long runs. */
final class PlainModel {
    enum State { WAITING, IN_TRANSIT, READY, DONE, EXPIRED, CANCELLED }

    enum Lies { FREE, OUT, ON_ITS_WAY, READY }

    private static final class Hold {
        int number;
        int person;
        int record;
        int place;
        int rank;
        State state = State.WAITING;
        long until = Long.MIN_VALUE;
        long end;

        boolean isOpen() {
            return state.compareTo(State.DONE) < 0;
        }
    }

    private static final class Copy {
        int number;
        int record;
        int place;
        Lies lies = Lies.OUT;
        Hold hold;
    }

    private final List<Integer> kinds = new ArrayList<>();
    private final List<Copy> copies = new ArrayList<>();
    private final List<Hold> holds = new ArrayList<>();
    private final Set<Integer> barred = new HashSet<>();
    private final Map<Integer, Integer> most = new HashMap<>();
    private long day = 0;
    private int span = 7;

    int record(int kind) {
        if (kind < 0 || kind > 3 || kinds.size() == 30) {
            return 0;
        }
        kinds.add(kind);
        return kinds.size();
    }

    int copy(int record, int place) {
        if (record < 1 || record > kinds.size() || place < 0 || place > 5 || copies.size() == 60) {
            return 0;
        }
        Copy c = new Copy();
        c.number = copies.size() + 1;
        c.record = record;
        c.place = place;
        copies.add(c);
        return c.number;
    }

    boolean bar(int kind, boolean on) {
        if (kind < 0 || kind > 3) {
            return false;
        }
        return on ? !barred.add(kind) : barred.remove(kind);
    }

    int hold(int person, int record, int place, int rank) {
        if (person < 0 || person > 39 || record < 1 || record > kinds.size() || place < 0 || place > 5) {
            return 0;
        }
        if (barred.contains(kinds.get(record - 1)) || holds.size() == 120) {
            return 0;
        }
        List<Hold> open = holds.stream().filter(h -> h.person == person && h.isOpen()).toList();
        if (open.stream().anyMatch(h -> h.record == record)) {
            return 0;
        }
        if (open.size() >= most.getOrDefault(person, 3)) {
            return -1;
        }
        Hold h = new Hold();
        h.number = holds.size() + 1;
        h.person = person;
        h.record = record;
        h.place = place;
        h.rank = rank;
        holds.add(h);
        copies.stream().filter(c -> c.record == record && c.lies == Lies.FREE).findFirst().ifPresent(this::go);
        return h.number;
    }

    int most(int person, int n) {
        if (person < 0 || person > 39 || n < 0 || n > 20) {
            return -1;
        }
        Integer before = most.put(person, n);
        return before == null ? 3 : before;
    }

    int suspend(int hold, long until) {
        Hold h = find(hold);
        if (h == null || h.state != State.WAITING) {
            return 0;
        }
        h.until = until;
        return 1;
    }

    int back(int copy, int place) {
        Copy c = findCopy(copy);
        if (c == null || place < 0 || place > 5 || c.lies != Lies.OUT) {
            return -1;
        }
        c.place = place;
        go(c);
        return c.hold == null ? 0 : c.hold.number;
    }

    int arrive(int copy) {
        Copy c = findCopy(copy);
        if (c == null || c.lies != Lies.ON_ITS_WAY) {
            return -1;
        }
        if (c.hold.state == State.CANCELLED) {
            go(c);
            return 0;
        }
        c.lies = Lies.READY;
        c.hold.state = State.READY;
        c.hold.end = day + span;
        return 1;
    }

    int pick(int hold) {
        Hold h = find(hold);
        if (h == null || h.state != State.READY) {
            return 0;
        }
        Copy c = copyFor(h);
        h.state = State.DONE;
        c.lies = Lies.OUT;
        c.hold = null;
        return c.number;
    }

    int lend(int copy) {
        Copy c = findCopy(copy);
        if (c == null || c.lies != Lies.FREE) {
            return 0;
        }
        c.lies = Lies.OUT;
        return 1;
    }

    int cancel(int hold) {
        Hold h = find(hold);
        if (h == null || !h.isOpen()) {
            return 0;
        }
        State before = h.state;
        h.state = State.CANCELLED;
        if (before == State.READY) {
            go(copyFor(h));
        }
        return 1;
    }

    int tick(long to) {
        if (to <= day || to > 1000000000L) {
            return -1;
        }
        day = to;
        List<Hold> late = holds.stream().filter(h -> h.state == State.READY && h.end < day).toList();
        for (Hold h : late) {
            h.state = State.EXPIRED;
            go(copyFor(h));
        }
        return late.size();
    }

    int span(int days) {
        if (days < 1 || days > 99) {
            return -1;
        }
        int before = span;
        span = days;
        return before;
    }

    int rank(int hold, int r) {
        Hold h = find(hold);
        if (h == null || h.state != State.WAITING) {
            return -1;
        }
        h.rank = r;
        return queue(h.record).indexOf(h);
    }

    int order(int record, int i) {
        List<Hold> queue = queue(record);
        return i < 0 || i >= queue.size() ? 0 : queue.get(i).number;
    }

    int state(int hold, int what) {
        Hold h = find(hold);
        if (h == null || what < 0 || what > 2) {
            return -1;
        }
        Copy c = copyFor(h);
        return what == 0 ? h.state.ordinal() : what == 2 ? queue(h.record).indexOf(h) : c == null ? 0 : c.number;
    }

    int where(int copy, int what) {
        Copy c = findCopy(copy);
        if (c == null || what < 0 || what > 2) {
            return -1;
        }
        return what == 0 ? c.lies.ordinal() : what == 1 ? c.place : c.hold == null ? 0 : c.hold.number;
    }

    private Hold find(int number) {
        return number < 1 || number > holds.size() ? null : holds.get(number - 1);
    }

    private Copy findCopy(int number) {
        return number < 1 || number > copies.size() ? null : copies.get(number - 1);
    }

    private Copy copyFor(Hold h) {
        return copies.stream().filter(c -> c.hold == h).findFirst().orElse(null);
    }

    private List<Hold> queue(int record) {
        return holds.stream().filter(h -> h.record == record && h.state == State.WAITING)
                .sorted(Comparator.comparingInt((Hold h) -> h.rank).thenComparingInt(h -> h.number)).toList();
    }

    private void go(Copy c) {
        c.hold = queue(c.record).stream().filter(h -> day >= h.until).findFirst().orElse(null);
        if (c.hold == null) {
            c.lies = Lies.FREE;
        } else if (c.hold.place == c.place) {
            c.lies = Lies.READY;
            c.hold.state = State.READY;
            c.hold.end = day + span;
        } else {
            c.lies = Lies.ON_ITS_WAY;
            c.place = c.hold.place;
            c.hold.state = State.IN_TRANSIT;
        }
    }
}
