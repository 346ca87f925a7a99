/**
 * A theatre: parts with rows of actors, colds, costumes that can be let out once, shows with their
 * best casts, seats sold with promises, and refunds when these are broken.
 */
public final class CastDesk {
    public static final int NONE = -1;
    public static final int AHEAD = 0, PLAYED = 1, CANCELLED = 2;
    public static final int NO_PROMISE = 0, STAR = 1, WHOLE = 2, STANDS = 3;

    private static final int ACTORS = 12;
    private static final int PARTS = 8;
    private static final int RANKS = 4;
    private static final int MOST_KNOWN = 4;
    private static final int FIRST_SIZE = 5;
    private static final int LARGEST_SIZE = 9;
    private static final int LAST_DAY = 1000;
    private static final int HIGHEST_PRICE = 1000;
    private static final int MOST_COSTUMES = 40;
    private static final int MOST_SHOWS = 40;
    private static final int MOST_SEATS = 100;

    private final Troupe troupe;
    private final Rows rows;
    private final Wardrobe wardrobe;
    private final Casting casting;
    private final Programme programme;
    private final BoxOffice office;
    private int partCount;
    private int today;

    public CastDesk() {
        troupe = new Troupe();
        rows = new Rows();
        wardrobe = new Wardrobe();
        casting = new Casting();
        programme = new Programme();
        office = new BoxOffice();
        partCount = 1;
        today = 0;
    }

    // ---- actors, parts, costumes

    public int setParts(int parts) throws IllegalArgumentException {
        if (parts < 1 || parts > PARTS) {
            throw new IllegalArgumentException("parts is out of range");
        }
        int before = partCount;
        partCount = parts;
        return before;
    }

    public int setSize(int actor, int size) throws IndexOutOfBoundsException, IllegalArgumentException {
        needActor(actor);
        needSize(size);
        int before = troupe.sizes[actor];
        troupe.sizes[actor] = size;
        return before;
    }

    public int learn(int actor, int part, boolean knows) throws IndexOutOfBoundsException, IllegalStateException {
        needActor(actor);
        needPart(part);
        int known = knows ? with(troupe.known[actor], part) : without(troupe.known[actor], part);
        int count = Integer.bitCount(known);
        if (count > MOST_KNOWN) {
            throw new IllegalStateException("the actor would know too many parts");
        }
        troupe.known[actor] = known;
        return count;
    }

    public int put(int part, int actor) throws IndexOutOfBoundsException, IllegalStateException {
        needPart(part);
        needActor(actor);
        if (rows.rankIn(part, actor) != NONE) {
            throw new IllegalStateException("the actor is in the row");
        }
        if (rows.isFull(part)) {
            throw new IllegalStateException("the row is full");
        }
        return rows.append(part, actor);
    }

    public int take(int part, int actor) throws IndexOutOfBoundsException, IllegalStateException {
        needPart(part);
        needActor(actor);
        int rank = rows.rankIn(part, actor);
        if (rank == NONE) {
            throw new IllegalStateException("the actor is not in the row");
        }
        rows.remove(part, rank);
        return rank;
    }

    public int costume(int part, int size)
            throws IndexOutOfBoundsException, IllegalArgumentException, IllegalStateException {
        needPart(part);
        needSize(size);
        if (wardrobe.count >= MOST_COSTUMES) {
            throw new IllegalStateException("there are too many costumes");
        }
        return wardrobe.add(part, size);
    }

    public int sizeOf(int costume) throws IndexOutOfBoundsException {
        needOneOf(costume, wardrobe.count);
        return wardrobe.sizes[costume];
    }

    public int cold(int actor, int from, int to) throws IndexOutOfBoundsException, IllegalArgumentException {
        needActor(actor);
        needDay(from, today);
        needDay(to, from);
        return troupe.fallIll(actor, from, to);
    }

    public boolean isIll(int actor, int day) throws IndexOutOfBoundsException, IllegalArgumentException {
        needActor(actor);
        needDay(day, 0);
        return has(troupe.ill[day], actor);
    }

    public boolean canPlay(int actor, int part, int day) throws IndexOutOfBoundsException, IllegalArgumentException {
        needActor(actor);
        needPart(part);
        needDay(day, 0);
        return rows.rankIn(part, actor) != NONE && isReady(actor, part, troupe.ill[day]);
    }

    // ---- casts

    public int strain(int day) throws IllegalArgumentException {
        needDay(day, 0);
        int cast = bestCast(troupe.ill[day]);
        return cast == NONE ? NONE : Casting.strainOf(cast);
    }

    public int strainByAll(int day) throws IllegalArgumentException {
        needDay(day, 0);
        offerActors(troupe.ill[day]);
        return casting.leastStrain(partCount);
    }

    public int work(int day) throws IllegalArgumentException {
        needDay(day, 0);
        int cast = bestCast(troupe.ill[day]);
        return cast == NONE ? NONE : Casting.workOf(cast);
    }

    public int actorFor(int day, int part) throws IndexOutOfBoundsException, IllegalArgumentException {
        needPart(part);
        needDay(day, 0);
        int cast = bestCast(troupe.ill[day]);
        return cast == NONE || part >= partCount ? NONE : actorIn(cast, part);
    }

    public int chain(int actor, int day) throws IndexOutOfBoundsException, IllegalArgumentException {
        needActor(actor);
        needDay(day, 0);
        int healthy = bestCast(troupe.ill[day]);
        int struck = bestCast(with(troupe.ill[day], actor));
        return healthy == NONE || struck == NONE ? NONE : countOthers(healthy, struck);
    }

    // ---- shows and seats

    public int show(int day) throws IllegalArgumentException, IllegalStateException {
        needDay(day, today);
        if (programme.showOn(day) != NONE) {
            throw new IllegalStateException("there is a show on the day");
        }
        if (programme.count >= MOST_SHOWS) {
            throw new IllegalStateException("there are too many shows");
        }
        return programme.add(day);
    }

    public int sell(int show, int price, int promise, int part)
            throws IndexOutOfBoundsException, IllegalArgumentException, IllegalStateException {
        needOneOf(show, programme.count);
        needPart(part);
        if (price < 1 || price > HIGHEST_PRICE) {
            throw new IllegalArgumentException("price is out of range");
        }
        if (promise < NO_PROMISE || promise > STANDS) {
            throw new IllegalArgumentException("promise is out of range");
        }
        if (programme.states[show] != AHEAD) {
            throw new IllegalStateException("the show is not ahead");
        }
        if (office.count >= MOST_SEATS) {
            throw new IllegalStateException("there are too many seats");
        }
        int star = rows.actorAt(part, 0);
        if (promise == STAR && star == NONE) {
            throw new IllegalStateException("the part has no first actor");
        }
        return office.add(show, price, promise, part, star);
    }

    public int play() throws IllegalStateException {
        if (today >= LAST_DAY) {
            throw new IllegalStateException("the last day is not played");
        }
        int show = programme.showOn(today);
        int refunded = show == NONE ? 0 : perform(show);
        today++;
        return refunded;
    }

    public int day() {
        return today;
    }

    public int stateOf(int show) throws IndexOutOfBoundsException {
        needOneOf(show, programme.count);
        return programme.states[show];
    }

    public int played(int show, int part) throws IndexOutOfBoundsException {
        needOneOf(show, programme.count);
        needPart(part);
        return programme.casts[show * PARTS + part];
    }

    public int refund(int seat) throws IndexOutOfBoundsException {
        needOneOf(seat, office.count);
        return office.refunds[seat];
    }

    public int takings() {
        return office.money;
    }

    // ---- what arguments must be

    private static void needActor(int actor) throws IndexOutOfBoundsException {
        if (actor < 0 || actor >= ACTORS) {
            throw new IndexOutOfBoundsException("there is no such actor");
        }
    }

    private static void needPart(int part) throws IndexOutOfBoundsException {
        if (part < 0 || part >= PARTS) {
            throw new IndexOutOfBoundsException("there is no such part");
        }
    }

    private static void needOneOf(int number, int count) throws IndexOutOfBoundsException {
        if (number < 0 || number >= count) {
            throw new IndexOutOfBoundsException("there is no such costume, show or seat");
        }
    }

    private static void needSize(int size) throws IllegalArgumentException {
        if (size < 0 || size > LARGEST_SIZE) {
            throw new IllegalArgumentException("size is out of range");
        }
    }

    private static void needDay(int day, int first) throws IllegalArgumentException {
        if (day < first || day > LAST_DAY) {
            throw new IllegalArgumentException("a day is out of range");
        }
    }

    // ---- sets of actors, or of parts, as the bits of a number

    private static boolean has(int set, int member) {
        return (set >> member & 1) != 0;
    }

    private static int with(int set, int member) {
        return set | 1 << member;
    }

    private static int without(int set, int member) {
        return set & ~(1 << member);
    }

    // ---- casts by what is so now

    /** Whether an actor of the part's row can play it while those of the set ill are ill. */
    private boolean isReady(int actor, int part, int ill) {
        int size = troupe.sizes[actor];
        return has(troupe.known[actor], part) && !has(ill, actor)
                && (wardrobe.lowestFitting(part, size) != NONE || wardrobe.lowestToLetOut(part, size) != NONE);
    }

    private void offerActors(int ill) {
        casting.clear();
        for (int part = 0; part < partCount; part++) {
            for (int rank = 0; rank < RANKS; rank++) {
                int actor = rows.actorAt(part, rank);
                if (actor != NONE && isReady(actor, part, ill)) {
                    boolean work = wardrobe.lowestFitting(part, troupe.sizes[actor]) == NONE;
                    casting.offer(part, rank, actor, work ? 1 : 0);
                }
            }
        }
    }

    /** The key of the best cast while those of the set ill are ill; NONE if there is no cast. */
    private int bestCast(int ill) {
        offerActors(ill);
        return casting.leastKey(partCount);
    }

    private int actorIn(int cast, int part) {
        return rows.actorAt(part, Casting.rankOf(cast, part));
    }

    private int countOthers(int cast, int other) {
        int count = 0;
        for (int part = 0; part < partCount; part++) {
            if (actorIn(cast, part) != actorIn(other, part)) {
                count++;
            }
        }
        return count;
    }

    // ---- the show of the day

    private int perform(int show) {
        int cast = bestCast(troupe.ill[today]);
        if (cast == NONE) {
            programme.states[show] = CANCELLED;
        } else {
            programme.states[show] = PLAYED;
            for (int part = 0; part < partCount; part++) {
                int actor = actorIn(cast, part);
                programme.casts[show * PARTS + part] = actor;
                dress(part, actor);
            }
        }
        return refundSeats(show, cast);
    }

    private void dress(int part, int actor) {
        if (actor == NONE) {
            return;
        }
        int size = troupe.sizes[actor];
        if (wardrobe.lowestFitting(part, size) == NONE) {
            wardrobe.letOut(wardrobe.lowestToLetOut(part, size));
        }
    }

    private int refundSeats(int show, int cast) {
        int sum = 0;
        for (int seat = 0; seat < office.count; seat++) {
            if (office.shows[seat] == show) {
                int share = cast == NONE ? 1 : shareBack(seat, cast);
                sum += office.giveBack(seat, share);
            }
        }
        return sum;
    }

    /** By what the price of a seat is divided for its refund; 0 if the promise is kept. */
    private int shareBack(int seat, int cast) {
        int part = office.parts[seat];
        boolean inPlay = part < partCount;
        switch (office.promises[seat]) {
            case STAR:
                return inPlay && actorIn(cast, part) != office.stars[seat] ? 2 : 0;
            case WHOLE:
                return Casting.strainOf(cast) > 0 ? 4 : 0;
            case STANDS:
                return inPlay && Casting.rankOf(cast, part) > 1 ? 10 : 0;
            default:
                return 0;
        }
    }

    /** The actors: their sizes, what they know, and who is ill on which day. */
    private static final class Troupe {
        final int[] sizes = new int[ACTORS];
        final int[] known = new int[ACTORS];
        final int[] ill = new int[LAST_DAY + 1];

        Troupe() {
            for (int actor = 0; actor < ACTORS; actor++) {
                sizes[actor] = FIRST_SIZE;
            }
        }

        /** Returns on how many of the days the actor was not ill before. */
        int fallIll(int actor, int from, int to) {
            int fresh = 0;
            for (int day = from; day <= to; day++) {
                if (!has(ill[day], actor)) {
                    ill[day] = with(ill[day], actor);
                    fresh++;
                }
            }
            return fresh;
        }
    }

    /** The rows of the parts: who is in them, in their order. */
    private static final class Rows {
        private final int[] actors = new int[PARTS * RANKS];
        private final int[] lengths = new int[PARTS];

        /** Returns NONE behind the end of the row. */
        int actorAt(int part, int rank) {
            return rank < lengths[part] ? actors[part * RANKS + rank] : NONE;
        }

        int rankIn(int part, int actor) {
            for (int rank = 0; rank < lengths[part]; rank++) {
                if (actors[part * RANKS + rank] == actor) {
                    return rank;
                }
            }
            return NONE;
        }

        boolean isFull(int part) {
            return lengths[part] >= RANKS;
        }

        int append(int part, int actor) {
            int rank = lengths[part];
            actors[part * RANKS + rank] = actor;
            lengths[part] = rank + 1;
            return rank;
        }

        void remove(int part, int rank) {
            for (int behind = rank + 1; behind < lengths[part]; behind++) {
                actors[part * RANKS + behind - 1] = actors[part * RANKS + behind];
            }
            lengths[part]--;
        }
    }

    /** The costumes. */
    private static final class Wardrobe {
        final int[] sizes = new int[MOST_COSTUMES];
        private final int[] parts = new int[MOST_COSTUMES];
        private final boolean[] isLetOut = new boolean[MOST_COSTUMES];
        int count;

        int add(int part, int size) {
            parts[count] = part;
            sizes[count] = size;
            count++;
            return count - 1;
        }

        int lowestFitting(int part, int size) {
            for (int costume = 0; costume < count; costume++) {
                if (parts[costume] == part && sizes[costume] == size) {
                    return costume;
                }
            }
            return NONE;
        }

        int lowestToLetOut(int part, int size) {
            for (int costume = 0; costume < count; costume++) {
                if (parts[costume] == part && sizes[costume] + 1 == size && !isLetOut[costume]) {
                    return costume;
                }
            }
            return NONE;
        }

        void letOut(int costume) {
            if (costume != NONE) {
                sizes[costume]++;
                isLetOut[costume] = true;
            }
        }
    }

    /**
     * The search for casts among the actors offered for each part. A cast is told by its key: from
     * above the strain, the work, and the ranks from the part 0 on, so that of two casts the better
     * one has the lesser key, and the keys of its parts add up to the key of the cast.
     */
    private static final class Casting {
        private static final int RANK_BITS = 2;
        private static final int WORK_SHIFT = PARTS * RANK_BITS;
        private static final int WORK_BITS = 4;
        private static final int STRAIN_SHIFT = WORK_SHIFT + WORK_BITS;

        private final int[] actors = new int[PARTS * RANKS];
        private final int[] keys = new int[PARTS * RANKS];
        private final int[] leastOfSet = new int[1 << ACTORS];
        private int setsBound;

        Casting() {
            for (int set = 0; set < leastOfSet.length; set++) {
                leastOfSet[set] = NONE;
            }
        }

        static int strainOf(int key) {
            return key >> STRAIN_SHIFT;
        }

        static int workOf(int key) {
            return key >> WORK_SHIFT & (1 << WORK_BITS) - 1;
        }

        static int rankOf(int key, int part) {
            return key >> rankShift(part) & RANKS - 1;
        }

        private static int rankShift(int part) {
            return (PARTS - 1 - part) * RANK_BITS;
        }

        void clear() {
            for (int place = 0; place < actors.length; place++) {
                actors[place] = NONE;
            }
            setsBound = 1;
        }

        void offer(int part, int rank, int actor, int work) {
            int place = part * RANKS + rank;
            actors[place] = actor;
            keys[place] = (rank << STRAIN_SHIFT) + (work << WORK_SHIFT) + (rank << rankShift(part));
            setsBound = Math.max(setsBound, 2 << actor);
        }

        /**
         * Returns the key of the best cast, or NONE. The actors of a set play as many parts, from
         * the part 0 on; adding one makes a greater number of it, so rising sets meet each set after
         * all that lead to it, and it can be wiped for the next search as soon as it was met.
         */
        int leastKey(int parts) {
            int least = NONE;
            leastOfSet[0] = 0;
            for (int set = 0; set < setsBound; set++) {
                int key = leastOfSet[set];
                leastOfSet[set] = NONE;
                if (key == NONE) {
                    continue;
                }
                int part = Integer.bitCount(set);
                if (part < parts) {
                    castPart(part, set, key);
                } else if (least == NONE || key < least) {
                    least = key;
                }
            }
            return least;
        }

        private void castPart(int part, int set, int key) {
            for (int rank = 0; rank < RANKS; rank++) {
                int place = part * RANKS + rank;
                int actor = actors[place];
                if (actor != NONE && !has(set, actor)) {
                    int wider = with(set, actor);
                    int sum = key + keys[place];
                    if (leastOfSet[wider] == NONE || sum < leastOfSet[wider]) {
                        leastOfSet[wider] = sum;
                    }
                }
            }
        }

        int leastStrain(int parts) {
            return leastFrom(actors, parts, 0, 0);
        }

        /** Tries all casts of the parts from one on, by actors who are not in the set. */
        private static int leastFrom(int[] actors, int parts, int part, int set) {
            if (part >= parts || part >= PARTS) {
                return 0;
            }
            int least = NONE;
            for (int rank = 0; rank < RANKS; rank++) {
                int actor = actors[part * RANKS + rank];
                if (actor == NONE || has(set, actor)) {
                    continue;
                }
                int rest = leastFrom(actors, parts, part + 1, with(set, actor));
                if (rest != NONE && (least == NONE || rank + rest < least)) {
                    least = rank + rest;
                }
            }
            return least;
        }
    }

    /** The shows: their days, what they are, and who played in them. */
    private static final class Programme {
        final int[] states = new int[MOST_SHOWS];
        final int[] casts = new int[MOST_SHOWS * PARTS];
        private final int[] days = new int[MOST_SHOWS];
        int count;

        Programme() {
            for (int place = 0; place < casts.length; place++) {
                casts[place] = NONE;
            }
        }

        int showOn(int day) {
            for (int show = 0; show < count; show++) {
                if (days[show] == day) {
                    return show;
                }
            }
            return NONE;
        }

        int add(int day) {
            days[count] = day;
            states[count] = AHEAD;
            count++;
            return count - 1;
        }
    }

    /** The seats that are sold, and the money. */
    private static final class BoxOffice {
        final int[] shows = new int[MOST_SEATS];
        final int[] promises = new int[MOST_SEATS];
        final int[] parts = new int[MOST_SEATS];
        final int[] stars = new int[MOST_SEATS];
        final int[] refunds = new int[MOST_SEATS];
        private final int[] prices = new int[MOST_SEATS];
        int count;
        int money;

        int add(int show, int price, int promise, int part, int star) {
            shows[count] = show;
            prices[count] = price;
            promises[count] = promise;
            parts[count] = part;
            stars[count] = star;
            money += price;
            count++;
            return count - 1;
        }

        /** Gives the price back, divided by the share and rounded up; nothing if the share is 0. */
        int giveBack(int seat, int share) {
            int refund = share <= 0 ? 0 : (prices[seat] + share - 1) / share;
            refunds[seat] = refund;
            money -= refund;
            return refund;
        }
    }
}
