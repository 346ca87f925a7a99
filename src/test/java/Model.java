import java.util.ArrayList;
import java.util.HashMap;
import java.util.HashSet;
import java.util.List;
import java.util.Map;
import java.util.Set;
import java.util.TreeMap;

/** The document written a second time, slowly and with other means, to hold CastDesk against. */
final class Model {
    private static final class Costume {
        int part;
        int size;
        boolean letOut;
    }

    private static final class Show {
        int day;
        int state = CastDesk.AHEAD;
        Map<Integer, Integer> cast = new HashMap<>();
    }

    private static final class Seat {
        Show show;
        int price;
        int promise;
        int part;
        int star;
        int refund;
    }

    private final int[] sizes = {5, 5, 5, 5, 5, 5, 5, 5, 5, 5, 5, 5};
    private final Map<Integer, Set<Integer>> known = new HashMap<>();
    private final Map<Integer, Set<Integer>> illDays = new HashMap<>();
    private final Map<Integer, List<Integer>> rows = new HashMap<>();
    private final List<Costume> costumes = new ArrayList<>();
    private final List<Show> shows = new ArrayList<>();
    private final List<Seat> seats = new ArrayList<>();
    private int parts = 1;
    private int now = 0;

    Model() {
        for (int actor = 0; actor < 12; actor++) {
            known.put(actor, new HashSet<>());
            illDays.put(actor, new HashSet<>());
        }
        for (int part = 0; part < 8; part++) {
            rows.put(part, new ArrayList<>());
        }
    }

    private static void index(boolean there) {
        if (!there) {
            throw new IndexOutOfBoundsException();
        }
    }

    private static void argument(boolean inRange) {
        if (!inRange) {
            throw new IllegalArgumentException();
        }
    }

    private static void state(boolean right) {
        if (!right) {
            throw new IllegalStateException();
        }
    }

    private static boolean within(int number, int least, int most) {
        return number >= least && number <= most;
    }

    int setParts(int number) {
        argument(within(number, 1, 8));
        int before = parts;
        parts = number;
        return before;
    }

    int setSize(int actor, int size) {
        index(sizesHas(actor));
        argument(within(size, 0, 9));
        int before = sizes[actor];
        sizes[actor] = size;
        return before;
    }

    private static boolean sizesHas(int actor) {
        return within(actor, 0, 11);
    }

    int learn(int actor, int part, boolean knows) {
        index(sizesHas(actor) && within(part, 0, 7));
        Set<Integer> all = new HashSet<>(known.get(actor));
        if (knows) {
            all.add(part);
        } else {
            all.remove(part);
        }
        state(all.size() <= 4);
        known.put(actor, all);
        return all.size();
    }

    int put(int part, int actor) {
        index(sizesHas(actor) && within(part, 0, 7));
        List<Integer> row = rows.get(part);
        state(!row.contains(actor) && row.size() < 4);
        row.add(actor);
        return row.size() - 1;
    }

    int take(int part, int actor) {
        index(sizesHas(actor) && within(part, 0, 7));
        int rank = rows.get(part).indexOf(actor);
        state(rank >= 0);
        rows.get(part).remove(rank);
        return rank;
    }

    int costume(int part, int size) {
        index(within(part, 0, 7));
        argument(within(size, 0, 9));
        state(costumes.size() < 40);
        Costume made = new Costume();
        made.part = part;
        made.size = size;
        costumes.add(made);
        return costumes.size() - 1;
    }

    int sizeOf(int costume) {
        index(within(costume, 0, costumes.size() - 1));
        return costumes.get(costume).size;
    }

    int cold(int actor, int from, int to) {
        index(sizesHas(actor));
        argument(within(from, now, 1000) && within(to, from, 1000));
        int before = illDays.get(actor).size();
        for (int day = from; day <= to; day++) {
            illDays.get(actor).add(day);
        }
        return illDays.get(actor).size() - before;
    }

    boolean isIll(int actor, int day) {
        index(sizesHas(actor));
        argument(within(day, 0, 1000));
        return illDays.get(actor).contains(day);
    }

    boolean canPlay(int actor, int part, int day) {
        index(sizesHas(actor) && within(part, 0, 7));
        argument(within(day, 0, 1000));
        return able(actor, part, day, -1);
    }

    private boolean fits(int part, int actor) {
        return costumes.stream().anyMatch(c -> c.part == part && c.size == sizes[actor]);
    }

    private boolean couldFit(Costume c, int part, int actor) {
        return c.part == part && !c.letOut && c.size == sizes[actor] - 1;
    }

    private boolean able(int actor, int part, int day, int struck) {
        boolean dressed = fits(part, actor) || costumes.stream().anyMatch(c -> couldFit(c, part, actor));
        return rows.get(part).contains(actor) && known.get(actor).contains(part)
                && !illDays.get(actor).contains(day) && actor != struck && dressed;
    }

    /** All casts, each as a list of actors, in the order of their ranks. */
    private void addCasts(List<Integer> begun, int day, int struck, List<List<Integer>> all) {
        int part = begun.size();
        if (part == parts) {
            all.add(new ArrayList<>(begun));
            return;
        }
        for (int actor : rows.get(part)) {
            if (able(actor, part, day, struck) && !begun.contains(actor)) {
                begun.add(actor);
                addCasts(begun, day, struck, all);
                begun.remove(part);
            }
        }
    }

    private int strainOf(List<Integer> cast) {
        int sum = 0;
        for (int part = 0; part < cast.size(); part++) {
            sum += rows.get(part).indexOf(cast.get(part));
        }
        return sum;
    }

    private int workOf(List<Integer> cast) {
        int sum = 0;
        for (int part = 0; part < cast.size(); part++) {
            sum += fits(part, cast.get(part)) ? 0 : 1;
        }
        return sum;
    }

    /** The first of the best by strain and work, for the casts come in the order of their ranks; null if none. */
    private List<Integer> best(int day, int struck) {
        List<List<Integer>> all = new ArrayList<>();
        addCasts(new ArrayList<>(), day, struck, all);
        TreeMap<Integer, List<Integer>> byValue = new TreeMap<>();
        for (List<Integer> cast : all) {
            byValue.putIfAbsent(strainOf(cast) * 100 + workOf(cast), cast);
        }
        return byValue.isEmpty() ? null : byValue.firstEntry().getValue();
    }

    int strain(int day) {
        argument(within(day, 0, 1000));
        List<Integer> cast = best(day, -1);
        return cast == null ? CastDesk.NONE : strainOf(cast);
    }

    int work(int day) {
        argument(within(day, 0, 1000));
        List<Integer> cast = best(day, -1);
        return cast == null ? CastDesk.NONE : workOf(cast);
    }

    int actorFor(int day, int part) {
        index(within(part, 0, 7));
        argument(within(day, 0, 1000));
        List<Integer> cast = best(day, -1);
        return cast == null || part >= cast.size() ? CastDesk.NONE : cast.get(part);
    }

    int chain(int actor, int day) {
        index(sizesHas(actor));
        argument(within(day, 0, 1000));
        List<Integer> without = best(day, -1);
        List<Integer> with = best(day, actor);
        if (without == null || with == null) {
            return CastDesk.NONE;
        }
        int others = 0;
        for (int part = 0; part < parts; part++) {
            others += with.get(part).equals(without.get(part)) ? 0 : 1;
        }
        return others;
    }

    int show(int day) {
        argument(within(day, now, 1000));
        state(shows.size() < 40 && shows.stream().noneMatch(s -> s.day == day));
        Show made = new Show();
        made.day = day;
        shows.add(made);
        return shows.size() - 1;
    }

    int sell(int show, int price, int promise, int part) {
        index(within(show, 0, shows.size() - 1) && within(part, 0, 7));
        argument(within(price, 1, 1000) && within(promise, 0, 3));
        List<Integer> row = rows.get(part);
        state(shows.get(show).state == CastDesk.AHEAD && seats.size() < 100);
        state(promise != CastDesk.STAR || !row.isEmpty());
        Seat sold = new Seat();
        sold.show = shows.get(show);
        sold.price = price;
        sold.promise = promise;
        sold.part = part;
        sold.star = row.isEmpty() ? -1 : row.get(0);
        seats.add(sold);
        return seats.size() - 1;
    }

    int play() {
        state(now < 1000);
        int refunded = 0;
        for (Show show : shows) {
            if (show.day == now) {
                refunded = perform(show);
            }
        }
        now++;
        return refunded;
    }

    private int perform(Show show) {
        List<Integer> cast = best(now, -1);
        show.state = cast == null ? CastDesk.CANCELLED : CastDesk.PLAYED;
        for (int part = 0; cast != null && part < parts; part++) {
            int actor = cast.get(part);
            show.cast.put(part, actor);
            if (!fits(part, actor)) {
                int wanted = part;
                Costume chosen = costumes.stream().filter(c -> couldFit(c, wanted, actor)).findFirst().get();
                chosen.size++;
                chosen.letOut = true;
            }
        }
        int sum = 0;
        for (Seat seat : seats) {
            if (seat.show == show) {
                seat.refund = refundOf(seat, cast);
                sum += seat.refund;
            }
        }
        return sum;
    }

    private int refundOf(Seat seat, List<Integer> cast) {
        if (cast == null) {
            return seat.price;
        }
        boolean left = seat.part >= parts;
        if (seat.promise == CastDesk.STAR && !left && cast.get(seat.part) != seat.star) {
            return (int) Math.ceil(seat.price / 2.0);
        }
        if (seat.promise == CastDesk.WHOLE && strainOf(cast) != 0) {
            return (int) Math.ceil(seat.price / 4.0);
        }
        if (seat.promise == CastDesk.STANDS && !left && rows.get(seat.part).indexOf(cast.get(seat.part)) > 1) {
            return (int) Math.ceil(seat.price / 10.0);
        }
        return 0;
    }

    int day() {
        return now;
    }

    /** Of how many parts the play is; for the tests alone. */
    int partCount() {
        return parts;
    }

    int stateOf(int show) {
        index(within(show, 0, shows.size() - 1));
        return shows.get(show).state;
    }

    int played(int show, int part) {
        index(within(show, 0, shows.size() - 1) && within(part, 0, 7));
        return shows.get(show).cast.getOrDefault(part, CastDesk.NONE);
    }

    int refund(int seat) {
        index(within(seat, 0, seats.size() - 1));
        return seats.get(seat).refund;
    }

    int takings() {
        return seats.stream().mapToInt(s -> s.price - s.refund).sum();
    }
}
