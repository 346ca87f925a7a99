import java.util.function.IntSupplier;

/**
 * Runs of 512 calls, right and wrong ones, each answer held against the one of Model; and some runs that go on until
 * the last day: what they answer is free by the document, but none of their calls may throw by itself.
 */
public final class ModelTest {
    private static final int RUNS = 500;
    private static final int CALLS = 512;
    private static final int LONG_RUNS = 4;
    private static final int LONG_CALLS = 16000;

    private static long row = 1;
    private static int calls = 0;
    private static int playedShows = 0;
    private static int cancelledShows = 0;
    private static int[] casts = new int[9];

    public static void main(String[] args) {
        for (int run = 0; run < RUNS; run++) {
            oneRun(run, CALLS);
        }
        for (int run = RUNS; run < RUNS + LONG_RUNS; run++) {
            Due.is("run " + run + ": the last day is met", oneRun(run, LONG_CALLS), 1000);
        }
        // What the runs meet is looked at, lest they say nothing of casts and refunds.
        Due.is("enough shows are played", playedShows > RUNS, true);
        Due.is("enough shows are cancelled", cancelledShows > RUNS, true);
        for (int parts = 1; parts <= 8; parts++) {
            Due.is("enough casts of " + parts + " parts", casts[parts] >= 20, true);
        }
        Due.end("ModelTest");
    }

    /** A fixed row of numbers, from 0 to below the bound. */
    private static int next(int bound) {
        row = row * 6364136223846793005L + 1442695040888963407L;
        return (int) ((row >>> 33) % bound);
    }

    /** Mostly a number from 0 to below the bound, at times one just outside or far off. */
    private static int near(int bound) {
        switch (next(40)) {
            case 0:
                return -1;
            case 1:
                return bound;
            case 2:
                return next(2) == 0 ? Integer.MIN_VALUE : Integer.MAX_VALUE;
            default:
                return next(Math.max(bound, 1));
        }
    }

    /** Returns the day that is met. */
    private static int oneRun(int run, int most) {
        CastDesk x = new CastDesk();
        Model m = new Model();
        int parts = 1 + next(8);
        calls = 0;
        same(run, "setParts", () -> x.setParts(parts), () -> m.setParts(parts));
        if (run % 4 != 0) {
            fillHouse(run, x, m, parts);
        }
        while (calls < most - 2) {
            oneCall(run, x, m, parts);
        }
        same(run, "takings", x::takings, m::takings);
        return m.day();
    }

    /** Fills most rows with actors who know their parts, so that large casts come about. */
    private static void fillHouse(int run, CastDesk x, Model m, int parts) {
        int sizes = 1 + next(3);
        for (int actor = 0; actor < 12; actor++) {
            int who = actor;
            int size = 5 + next(sizes);
            same(run, "setSize", () -> x.setSize(who, size), () -> m.setSize(who, size));
        }
        for (int part = 0; part < parts; part++) {
            int where = part;
            for (int time = 0; time < 5; time++) {
                int actor = next(12);
                same(run, "learn", () -> x.learn(actor, where, true), () -> m.learn(actor, where, true));
                same(run, "put", () -> x.put(where, actor), () -> m.put(where, actor));
            }
            for (int time = 0; time < 3; time++) {
                int size = 5 + next(sizes);
                same(run, "costume", () -> x.costume(where, size), () -> m.costume(where, size));
            }
        }
    }

    private static void oneCall(int run, CastDesk x, Model m, int parts) {
        int actor = near(12);
        int part = next(3) == 0 ? near(8) : near(parts);
        int day = next(3) == 0 ? near(1001) : m.day() / 30 * 30 + near(30);
        int number = near(40);
        switch (next(40)) {
            case 0: case 1: case 2: case 3: case 4: case 5: case 6: case 7: case 8:
                changePeople(run, x, m, actor, part);
                break;
            case 9: case 10: case 11:
                int size = near(10);
                same(run, "costume", () -> x.costume(part, size), () -> m.costume(part, size));
                break;
            case 12: case 13: case 14:
                int to = day + near(4);
                same(run, "cold", () -> x.cold(actor, day, to), () -> m.cold(actor, day, to));
                break;
            case 15: case 16: case 17:
                int soon = next(4) == 0 ? day : m.day() + next(4);
                same(run, "show", () -> x.show(soon), () -> m.show(soon));
                break;
            case 18: case 19: case 20: case 21: case 22: case 23:
                int show = near(6 + next(35));
                int price = 1 + near(1000);
                int promise = near(4);
                same(run, "sell", () -> x.sell(show, price, promise, part), () -> m.sell(show, price, promise, part));
                break;
            case 24: case 25: case 26:
                same(run, "play", x::play, m::play);
                same(run, "day", x::day, m::day);
                break;
            case 27:
                int others = next(6) == 0 ? near(10) : parts;
                same(run, "setParts", () -> x.setParts(others), () -> m.setParts(others));
                break;
            case 28: case 29: case 30: case 31: case 32: case 33:
                askCasts(run, x, m, actor, part, next(2) == 0 ? m.day() : day);
                break;
            default:
                askShows(run, x, m, number, part);
        }
    }

    private static void changePeople(int run, CastDesk x, Model m, int actor, int part) {
        int size = next(4) == 0 ? near(10) : 4 + next(3);
        boolean knows = next(5) != 0;
        switch (next(6)) {
            case 0:
                same(run, "setSize", () -> x.setSize(actor, size), () -> m.setSize(actor, size));
                break;
            case 1: case 2:
                same(run, "learn", () -> x.learn(actor, part, knows), () -> m.learn(actor, part, knows));
                break;
            case 3: case 4:
                same(run, "put", () -> x.put(part, actor), () -> m.put(part, actor));
                break;
            default:
                same(run, "take", () -> x.take(part, actor), () -> m.take(part, actor));
        }
    }

    private static void askCasts(int run, CastDesk x, Model m, int actor, int part, int day) {
        switch (next(7)) {
            case 0: case 1:
                int strain = same(run, "strain", () -> x.strain(day), () -> m.strain(day));
                casts[strain >= 0 ? m.partCount() : 0]++;
                break;
            case 2:
                same(run, "strainByAll", () -> x.strainByAll(day), () -> m.strain(day));
                break;
            case 3:
                same(run, "work", () -> x.work(day), () -> m.work(day));
                break;
            case 4:
                same(run, "actorFor", () -> x.actorFor(day, part), () -> m.actorFor(day, part));
                break;
            case 5:
                same(run, "chain", () -> x.chain(actor, day), () -> m.chain(actor, day));
                break;
            default:
                same(run, "canPlay", () -> x.canPlay(actor, part, day) ? 1 : 0,
                        () -> m.canPlay(actor, part, day) ? 1 : 0);
        }
    }

    private static void askShows(int run, CastDesk x, Model m, int number, int part) {
        int few = near(6);
        switch (next(6)) {
            case 0:
                same(run, "sizeOf", () -> x.sizeOf(number), () -> m.sizeOf(number));
                break;
            case 1:
                int state = same(run, "stateOf", () -> x.stateOf(few), () -> m.stateOf(few));
                playedShows += state == CastDesk.PLAYED ? 1 : 0;
                cancelledShows += state == CastDesk.CANCELLED ? 1 : 0;
                break;
            case 2:
                same(run, "played", () -> x.played(few, part), () -> m.played(few, part));
                break;
            case 3:
                same(run, "refund", () -> x.refund(number), () -> m.refund(number));
                break;
            case 4:
                same(run, "takings", x::takings, m::takings);
                break;
            default:
                same(run, "isIll", () -> x.isIll(few, number) ? 1 : 0, () -> m.isIll(few, number) ? 1 : 0);
        }
    }

    /** Returns the answer; NONE if the call throws. */
    private static int same(int run, String call, IntSupplier got, IntSupplier want) {
        calls++;
        String answer = answerOf(got);
        Due.same("run " + run + ": " + call, answer, answerOf(want));
        return answer.charAt(0) == 'j' ? CastDesk.NONE : Integer.parseInt(answer);
    }

    private static String answerOf(IntSupplier call) {
        try {
            return String.valueOf(call.getAsInt());
        } catch (RuntimeException e) {
            return e.getClass().getName();
        }
    }
}
