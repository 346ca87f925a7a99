import java.util.function.Consumer;

/**
 * Every refused call: the exception that is due, and that the call changed nothing; and that questions change
 * nothing. "IndexOutOfBoundsException: there is no such actor, part, costume, show or seat.
 * IllegalArgumentException: another argument is out of its range. IllegalStateException: as the method tells. If
 * several apply, the one that is named first in the throws clause is thrown. A call that throws an exception
 * changes nothing." (Terms, Exceptions) and "Questions change nothing." (Terms)
 */
public final class RefusedTest {
    private enum House {
        NEW, BUSY, FULL;

        CastDesk make() {
            switch (this) {
                case NEW:
                    return new CastDesk();
                case BUSY:
                    return Houses.busy();
                default:
                    return Houses.full();
            }
        }
    }

    /** A call by one number that is wrong. */
    private interface WrongCall {
        void make(CastDesk x, int wrong);
    }

    private static final String[][] TRACES = new String[House.values().length][Trace.KINDS];

    public static void main(String[] args) {
        for (House house : House.values()) {
            for (int kind = 0; kind < Trace.KINDS; kind++) {
                TRACES[house.ordinal()][kind] = Trace.of(house.make(), kind);
            }
        }
        housesAreWhatTheyShould();
        noSuchActor();
        noSuchPart();
        noSuchCostumeShowOrSeat();
        outOfRange();
        daysOutOfRange();
        asTheMethodTells();
        indexBeforeArgument();
        indexBeforeState();
        argumentBeforeState();
        questionsChangeNothing();
        otherTheatresChangeNothing();
        Due.end("RefusedTest");
    }

    private static void index(String what, House house, Consumer<CastDesk> call) {
        CastDesk x = house.make();
        Due.noIndex(what + " (" + house + ")", () -> call.accept(x));
        unchanged(what, house, call);
    }

    private static void argument(String what, House house, Consumer<CastDesk> call) {
        CastDesk x = house.make();
        Due.noArgument(what + " (" + house + ")", () -> call.accept(x));
        unchanged(what, house, call);
    }

    private static void state(String what, House house, Consumer<CastDesk> call) {
        CastDesk x = house.make();
        Due.noState(what + " (" + house + ")", () -> call.accept(x));
        unchanged(what, house, call);
    }

    private static void unchanged(String what, House house, Consumer<CastDesk> call) {
        for (int kind = 0; kind < Trace.KINDS; kind++) {
            CastDesk x = house.make();
            try {
                call.accept(x);
            } catch (RuntimeException refused) {
                // What it throws is looked at by the caller.
            }
            String due = TRACES[house.ordinal()][kind];
            Due.same(what + " (" + house + ") changed what can be seen", Trace.of(x, kind), due);
        }
    }

    /** Calls with a number that is just too small, just too large, and as far off as can be. */
    private static void indexes(String what, int tooLarge, WrongCall call) {
        for (int wrong : new int[] {-1, tooLarge, Integer.MIN_VALUE, Integer.MAX_VALUE}) {
            index(what + " " + wrong, House.BUSY, x -> call.make(x, wrong));
        }
        index(what + " " + tooLarge, House.FULL, x -> call.make(x, tooLarge));
    }

    private static void arguments(String what, int tooSmall, int tooLarge, WrongCall call) {
        for (int wrong : new int[] {tooSmall, tooLarge, Integer.MIN_VALUE, Integer.MAX_VALUE}) {
            argument(what + " " + wrong, House.BUSY, x -> call.make(x, wrong));
        }
    }

    /** Lest the tests below say nothing: the houses hold what the refused calls could change. */
    private static void housesAreWhatTheyShould() {
        CastDesk busy = House.BUSY.make();
        Due.is("busy: day", busy.day(), 2);
        Due.is("busy: played", busy.stateOf(0), CastDesk.PLAYED);
        Due.is("busy: cancelled", busy.stateOf(1), CastDesk.CANCELLED);
        Due.is("busy: ahead", busy.stateOf(2), CastDesk.AHEAD);
        Due.is("busy: let out", busy.sizeOf(0), 6);
        Due.is("busy: a cast", busy.strain(2), 0);
        CastDesk full = House.FULL.make();
        Due.is("full: day", full.day(), 2);
        Due.is("full: played", full.stateOf(0), CastDesk.PLAYED);
        Due.is("full: cancelled", full.stateOf(1), CastDesk.CANCELLED);
        Due.is("full: ahead", full.stateOf(39), CastDesk.AHEAD);
        Due.is("full: a cast", full.strain(2) > 0, true);
        Due.is("full: the last seat", full.refund(99), 0);
    }

    /** "Throws IndexOutOfBoundsException if there is no such actor": promises 3, 4, 5, 6, 9, 10, 11, 16. */
    private static void noSuchActor() {
        indexes("3: setSize, actor", 12, (x, wrong) -> x.setSize(wrong, 3));
        indexes("4: learn, actor", 12, (x, wrong) -> x.learn(wrong, 6, true));
        indexes("4: forget, actor", 12, (x, wrong) -> x.learn(wrong, 0, false));
        indexes("5: put, actor", 12, (x, wrong) -> x.put(5, wrong));
        indexes("6: take, actor", 12, (x, wrong) -> x.take(0, wrong));
        indexes("9: cold, actor", 12, (x, wrong) -> x.cold(wrong, 2, 5));
        indexes("10: isIll, actor", 12, (x, wrong) -> x.isIll(wrong, 2));
        indexes("11: canPlay, actor", 12, (x, wrong) -> x.canPlay(wrong, 0, 2));
        indexes("16: chain, actor", 12, (x, wrong) -> x.chain(wrong, 2));
    }

    /** "Throws IndexOutOfBoundsException if there is no such part": promises 4, 5, 6, 7, 11, 15, 18, 22. */
    private static void noSuchPart() {
        indexes("4: learn, part", 8, (x, wrong) -> x.learn(8, wrong, true));
        indexes("4: forget, part", 8, (x, wrong) -> x.learn(0, wrong, false));
        indexes("5: put, part", 8, (x, wrong) -> x.put(wrong, 8));
        indexes("6: take, part", 8, (x, wrong) -> x.take(wrong, 0));
        indexes("7: costume, part", 8, (x, wrong) -> x.costume(wrong, 5));
        indexes("11: canPlay, part", 8, (x, wrong) -> x.canPlay(0, wrong, 2));
        indexes("15: actorFor, part", 8, (x, wrong) -> x.actorFor(2, wrong));
        indexes("18: sell, part", 8, (x, wrong) -> x.sell(2, 10, CastDesk.NO_PROMISE, wrong));
        indexes("18: sell a STAR, part", 8, (x, wrong) -> x.sell(2, 10, CastDesk.STAR, wrong));
        indexes("22: played, part", 8, (x, wrong) -> x.played(0, wrong));
    }

    /** "Throws IndexOutOfBoundsException if there is no such costume / show / seat": promises 8, 18, 21, 22, 23. */
    private static void noSuchCostumeShowOrSeat() {
        indexes("8: sizeOf, costume", 40, (x, wrong) -> x.sizeOf(wrong));
        index("8: sizeOf, the one behind the last", House.BUSY, x -> x.sizeOf(7));
        index("8: sizeOf, none yet", House.NEW, x -> x.sizeOf(0));
        indexes("18: sell, show", 40, (x, wrong) -> x.sell(wrong, 10, CastDesk.NO_PROMISE, 0));
        index("18: sell, the show behind the last", House.BUSY, x -> x.sell(4, 10, CastDesk.NO_PROMISE, 0));
        index("18: sell, no show yet", House.NEW, x -> x.sell(0, 10, CastDesk.NO_PROMISE, 0));
        indexes("21: stateOf, show", 40, (x, wrong) -> x.stateOf(wrong));
        index("21: stateOf, the one behind the last", House.BUSY, x -> x.stateOf(4));
        index("21: stateOf, none yet", House.NEW, x -> x.stateOf(0));
        indexes("22: played, show", 40, (x, wrong) -> x.played(wrong, 0));
        index("22: played, the one behind the last", House.BUSY, x -> x.played(4, 0));
        index("22: played, none yet", House.NEW, x -> x.played(0, 0));
        indexes("23: refund, seat", 100, (x, wrong) -> x.refund(wrong));
        index("23: refund, the one behind the last", House.BUSY, x -> x.refund(16));
        index("23: refund, none yet", House.NEW, x -> x.refund(0));
    }

    /** "Throws IllegalArgumentException if parts / size / price or promise is out of range": promises 2, 3, 7, 18. */
    private static void outOfRange() {
        arguments("2: setParts, parts", 0, 9, (x, wrong) -> x.setParts(wrong));
        arguments("3: setSize, size", -1, 10, (x, wrong) -> x.setSize(0, wrong));
        arguments("7: costume, size", -1, 10, (x, wrong) -> x.costume(0, wrong));
        arguments("18: sell, price", 0, 1001, (x, wrong) -> x.sell(2, wrong, CastDesk.NO_PROMISE, 0));
        arguments("18: sell, price of a STAR", 0, 1001, (x, wrong) -> x.sell(2, wrong, CastDesk.STAR, 0));
        arguments("18: sell, promise", -1, 4, (x, wrong) -> x.sell(2, 10, wrong, 0));
    }

    /** "Throws IllegalArgumentException if from or to / day is out of range": promises 9 to 17. */
    private static void daysOutOfRange() {
        arguments("9: cold, from", 1, 1001, (x, wrong) -> x.cold(1, wrong, 1000));
        arguments("9: cold, from and to", 1, 1001, (x, wrong) -> x.cold(1, wrong, wrong));
        arguments("9: cold, to", 4, 1001, (x, wrong) -> x.cold(1, 5, wrong));
        arguments("10: isIll, day", -1, 1001, (x, wrong) -> x.isIll(0, wrong));
        arguments("11: canPlay, day", -1, 1001, (x, wrong) -> x.canPlay(0, 0, wrong));
        arguments("12: strain, day", -1, 1001, (x, wrong) -> x.strain(wrong));
        arguments("13: strainByAll, day", -1, 1001, (x, wrong) -> x.strainByAll(wrong));
        arguments("14: work, day", -1, 1001, (x, wrong) -> x.work(wrong));
        arguments("15: actorFor, day", -1, 1001, (x, wrong) -> x.actorFor(wrong, 0));
        arguments("15: actorFor a part that is not played, day", -1, 1001, (x, wrong) -> x.actorFor(wrong, 7));
        arguments("16: chain, day", -1, 1001, (x, wrong) -> x.chain(0, wrong));
        arguments("17: show, day", 1, 1001, (x, wrong) -> x.show(wrong));
    }

    /** "Throws IllegalStateException if ..": promises 4, 5, 6, 7, 17, 18 (19 can't come about within 512 calls). */
    private static void asTheMethodTells() {
        state("4: the actor would know more than 4", House.FULL, x -> x.learn(7, 0, true));
        state("4: the last actor would know more than 4", House.FULL, x -> x.learn(11, 7, true));
        state("5: the actor is in the row, first", House.BUSY, x -> x.put(1, 1));
        state("5: the actor is in the row, last", House.BUSY, x -> x.put(1, 5));
        state("5: the actor is in a full row", House.BUSY, x -> x.put(0, 4));
        state("5: the row has 4", House.BUSY, x -> x.put(0, 5));
        state("5: the last row has 4", House.FULL, x -> x.put(7, 11));
        state("6: not in the row", House.BUSY, x -> x.take(0, 5));
        state("6: not in the full row", House.FULL, x -> x.take(7, 11));
        state("6: an empty row", House.BUSY, x -> x.take(3, 0));
        state("6: an empty row of a new object", House.NEW, x -> x.take(0, 0));
        state("7: there are 40", House.FULL, x -> x.costume(0, 5));
        state("17: there is one on the day", House.BUSY, x -> x.show(3));
        state("17: there is one on the last day", House.BUSY, x -> x.show(1000));
        state("17: there are 40", House.FULL, x -> x.show(999));
        state("17: one on the day, and 40", House.FULL, x -> x.show(2));
        state("18: the show is PLAYED", House.BUSY, x -> x.sell(0, 10, CastDesk.NO_PROMISE, 0));
        state("18: the show is CANCELLED", House.BUSY, x -> x.sell(1, 10, CastDesk.NO_PROMISE, 0));
        state("18: there are 100 seats", House.FULL, x -> x.sell(2, 10, CastDesk.NO_PROMISE, 0));
        state("18: STAR without a first actor", House.BUSY, x -> x.sell(2, 10, CastDesk.STAR, 6));
        state("18: STAR without a first actor, PLAYED", House.BUSY, x -> x.sell(0, 10, CastDesk.STAR, 6));
    }

    /** IndexOutOfBoundsException before IllegalArgumentException: promises 3, 7, 9, 10, 11, 15, 16, 18. */
    private static void indexBeforeArgument() {
        index("3: actor and size", House.BUSY, x -> x.setSize(12, 10));
        index("7: part and size", House.BUSY, x -> x.costume(8, 10));
        index("9: actor and from", House.BUSY, x -> x.cold(12, 1, 5));
        index("9: actor and to", House.BUSY, x -> x.cold(12, 5, 4));
        index("10: actor and day", House.BUSY, x -> x.isIll(12, 1001));
        index("11: actor and day", House.BUSY, x -> x.canPlay(12, 0, 1001));
        index("11: part and day", House.BUSY, x -> x.canPlay(0, 8, 1001));
        index("15: part and day", House.BUSY, x -> x.actorFor(1001, 8));
        index("16: actor and day", House.BUSY, x -> x.chain(12, 1001));
        index("18: show and price", House.BUSY, x -> x.sell(4, 0, 0, 0));
        index("18: show and promise", House.BUSY, x -> x.sell(4, 10, 4, 0));
        index("18: part and price", House.BUSY, x -> x.sell(2, 0, 0, 8));
        index("18: part and promise", House.BUSY, x -> x.sell(2, 10, 4, 8));
    }

    /** IndexOutOfBoundsException before IllegalStateException: promises 4, 5, 6, 7, 18. */
    private static void indexBeforeState() {
        index("4: no part, but 4 known", House.FULL, x -> x.learn(7, 8, true));
        index("5: no actor, but a full row", House.FULL, x -> x.put(0, 12));
        index("6: no actor, but an empty row", House.BUSY, x -> x.take(3, 12));
        index("7: no part, but 40 costumes", House.FULL, x -> x.costume(8, 5));
        index("7: no part, no size, but 40 costumes", House.FULL, x -> x.costume(8, 10));
        index("18: no show, but 100 seats", House.FULL, x -> x.sell(40, 10, 0, 0));
        index("18: no part, but PLAYED", House.BUSY, x -> x.sell(0, 10, 0, 8));
        index("18: no part, but CANCELLED, of no price", House.BUSY, x -> x.sell(1, 0, 0, 8));
        index("18: no show, STAR without a first actor", House.BUSY, x -> x.sell(4, 10, CastDesk.STAR, 6));
    }

    /** IllegalArgumentException before IllegalStateException: promises 7, 17, 18. */
    private static void argumentBeforeState() {
        argument("7: no size, but 40 costumes", House.FULL, x -> x.costume(0, 10));
        argument("17: a day before now with a show on it", House.BUSY, x -> x.show(1));
        argument("17: a day behind the last, but 40 shows", House.FULL, x -> x.show(1001));
        argument("17: a day before now with a show on it, but 40 shows", House.FULL, x -> x.show(1));
        argument("18: no price, but PLAYED", House.BUSY, x -> x.sell(0, 0, 0, 0));
        argument("18: no promise, but CANCELLED", House.BUSY, x -> x.sell(1, 10, 4, 0));
        argument("18: no price, but 100 seats", House.FULL, x -> x.sell(2, 1001, 0, 0));
        argument("18: no promise, but 100 seats", House.FULL, x -> x.sell(2, 10, -1, 0));
        argument("18: no price, STAR without a first actor", House.BUSY, x -> x.sell(2, 0, CastDesk.STAR, 6));
    }

    private static void questionsChangeNothing() {
        for (House house : House.values()) {
            unchanged("10: isIll", house, x -> x.isIll(0, 3));
            unchanged("11: canPlay", house, x -> x.canPlay(0, 0, 2));
            unchanged("12: strain", house, x -> x.strain(2));
            unchanged("13: strainByAll", house, x -> x.strainByAll(2));
            unchanged("14: work", house, x -> x.work(2));
            unchanged("15: actorFor", house, x -> x.actorFor(2, 0));
            unchanged("16: chain", house, x -> x.chain(0, 2));
            unchanged("20: day", house, CastDesk::day);
            unchanged("24: takings", house, CastDesk::takings);
        }
        for (House house : new House[] {House.BUSY, House.FULL}) {
            unchanged("8: sizeOf", house, x -> x.sizeOf(0));
            unchanged("21: stateOf", house, x -> x.stateOf(2));
            unchanged("22: played", house, x -> x.played(0, 0));
            unchanged("23: refund", house, x -> x.refund(1));
        }
    }

    /** Promise 1: "Makes a theatre": each object is one of its own, whatever is done with others. */
    private static void otherTheatresChangeNothing() {
        for (House house : House.values()) {
            unchanged("1: another theatre", house, x -> {
                CastDesk other = House.FULL.make();
                other.chain(1, 2);
                other.play();
            });
        }
    }
}
