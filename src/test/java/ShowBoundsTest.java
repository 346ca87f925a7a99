/**
 * The boundary cases of "Shows and seats" in the document's Terms and of the promises 17 to 24, a method for each
 * sentence. What is refused on both sides of a range is in RefusedTest, with the look that nothing changed.
 */
public final class ShowBoundsTest {
    private static final int[] PROMISES = {CastDesk.NO_PROMISE, CastDesk.STAR, CastDesk.WHOLE, CastDesk.STANDS};

    public static void main(String[] args) {
        showsFrom0();
        showsAtMost40();
        oneShowADay();
        aheadUntilItsDay();
        playedByWhatIsSoThen();
        cancelledWithoutCast();
        letOutTheLowest();
        letOutForEachPart();
        letOutOnlyWhatIsPlayed();
        seatsFrom0();
        seatsAtMost100();
        seatsForShowsAhead();
        noPromiseIsKept();
        starWhenTheSeatIsSold();
        starWithinTheRow();
        wholeOfAllParts();
        wholeAsTheRowsAreThen();
        standsByRank();
        standsAsTheRowIsThen();
        partsThePlayDoesNotHave();
        refundOfCancelled();
        halfRoundedUp();
        quarterRoundedUp();
        tenthRoundedUp();
        showFromTheDayOfNow();
        showOnTheLastDay();
        sellFirstAndLastOfRanges();
        sellPartWhateverThePromise();
        sellStarWithoutFirstActor();
        playWithoutShow();
        playReturnsWhatIsRefunded();
        playNothingForOtherShows();
        playOnTheLastDay();
        stateOfEveryShow();
        playedByFirstAndLast();
        playedNobody();
        refundWhileAhead();
        refundStays();
        takingsLeastAndGreatest();
        Due.end("ShowBoundsTest");
    }

    /** One part with four actors, 0 to 3 by rank, all of whom it fits, and a show on each of so many days. */
    private static CastDesk onePart(int shows) {
        CastDesk x = Houses.play(Houses.row(0, 1, 2, 3));
        for (int day = 0; day < shows; day++) {
            x.show(day);
        }
        return x;
    }

    /** Lets all of lesser rank be ill on a day, so that the actor of the rank plays; nobody, if the rank is 4. */
    private static void castRank(CastDesk x, int rank, int day) {
        for (int actor = 0; actor < rank; actor++) {
            x.cold(actor, day, day);
        }
    }

    /** Terms: "Shows are numbered from 0": in the order in which they are added, whatever their days. */
    private static void showsFrom0() {
        CastDesk x = new CastDesk();
        Due.noIndex("shows: none yet", () -> x.stateOf(0));
        Due.is("shows: the first", x.show(1000), 0);
        Due.noIndex("shows: one alone", () -> x.stateOf(1));
        Due.is("shows: the second", x.show(0), 1);
        x.play();
        Due.is("shows: the first is ahead", x.stateOf(0), CastDesk.AHEAD);
        Due.is("shows: the second is not", x.stateOf(1), CastDesk.CANCELLED);
    }

    /** Terms: "Shows are numbered from 0, at most 40": the step into the fortieth and the step behind it. */
    private static void showsAtMost40() {
        CastDesk x = onePart(39);
        Due.noIndex("40 shows: 39 alone", () -> x.stateOf(39));
        Due.is("40 shows: the fortieth", x.show(39), 39);
        Due.noState("40 shows: one behind it", () -> x.show(40));
        Due.noIndex("40 shows: 40 alone", () -> x.stateOf(40));
        Due.is("40 shows: a seat of the last", x.sell(39, 8, CastDesk.WHOLE, 0), 0);
        castRank(x, 1, 39);
        castRank(x, 4, 38);
        for (int day = 0; day < 40; day++) {
            Due.is("40 shows: refunded on the day " + day, x.play(), day == 39 ? 2 : 0);
            int due = day == 38 ? CastDesk.CANCELLED : CastDesk.PLAYED;
            Due.is("40 shows: state on the day " + day, x.stateOf(day), due);
        }
        Due.is("40 shows: who played in the last", x.played(39, 0), 1);
        Due.noState("40 shows: those that are over count", () -> x.show(40));
        Due.noState("40 shows: on the last day too", () -> x.show(1000));
    }

    /** Terms: "a show is on a day on which there is no other one": the days beside it are free. */
    private static void oneShowADay() {
        CastDesk x = new CastDesk();
        Due.is("one a day: first", x.show(5), 0);
        Due.noState("one a day: again", () -> x.show(5));
        Due.is("one a day: the day ahead", x.show(4), 1);
        Due.is("one a day: the day behind", x.show(6), 2);
        Due.noState("one a day: all three", () -> x.show(4));
        Due.is("one a day: refused ones get no number", x.show(0), 3);
        Due.noState("one a day: the day of now", () -> x.show(0));
        x.play();
        Due.noArgument("one a day: a day that is over", () -> x.show(0));
        Due.is("one a day: the new day of now", x.show(1), 4);
    }

    /** Terms: "When its day is played, it is PLAYED": AHEAD on the day itself, not a day earlier or later. */
    private static void aheadUntilItsDay() {
        CastDesk x = Houses.play(Houses.row(0));
        x.show(2);
        for (int day = 0; day <= 2; day++) {
            Due.is("ahead: on the day", x.day(), day);
            Due.is("ahead: on the day " + day, x.stateOf(0), CastDesk.AHEAD);
            Due.is("ahead: nobody played on the day " + day, x.played(0, 0), CastDesk.NONE);
            x.play();
        }
        Due.is("ahead: no more", x.stateOf(0), CastDesk.PLAYED);
        Due.is("ahead: who played", x.played(0, 0), 0);
        x.play();
        Due.is("ahead: played once alone", x.stateOf(0), CastDesk.PLAYED);
    }

    /** Terms: "with the best cast for the day by what is so then": not as it was when the show was added. */
    private static void playedByWhatIsSoThen() {
        CastDesk x = new CastDesk();
        x.show(0);
        x.show(1);
        Due.is("then: no cast when it is added", x.strain(0), CastDesk.NONE);
        x.costume(0, 5);
        Houses.fill(x, 0, 7);
        x.play();
        Due.is("then: a cast when it is played", x.stateOf(0), CastDesk.PLAYED);
        x.setParts(2);
        x.play();
        Due.is("then: no cast of two parts", x.stateOf(1), CastDesk.CANCELLED);
        x.setParts(1);
        Due.is("then: nothing changes later", x.stateOf(1), CastDesk.CANCELLED);
        Due.is("then: nor who played", x.played(0, 0), 7);
    }

    /** Terms: "if there is no cast, it is CANCELLED": one body is missing for one part of eight. */
    private static void cancelledWithoutCast() {
        CastDesk x = new CastDesk();
        x.setParts(8);
        for (int part = 0; part < 8; part++) {
            Houses.fill(x, part, part);
            x.costume(part, 4);
        }
        x.show(0);
        x.show(1);
        x.cold(7, 0, 0);
        x.play();
        Due.is("cancelled: without the last part", x.stateOf(0), CastDesk.CANCELLED);
        for (int part = 0; part < 8; part++) {
            Due.is("cancelled: nobody played " + part, x.played(0, part), CastDesk.NONE);
            Due.is("cancelled: nothing is let out for " + part, x.sizeOf(part), 4);
        }
        x.play();
        Due.is("cancelled: not the next one", x.stateOf(1), CastDesk.PLAYED);
        Due.is("cancelled: the last part then", x.played(1, 7), 7);
        Due.is("cancelled: let out then", x.sizeOf(7), 5);
    }

    /** Terms: "the lowest costume for it that could fit is let out": not those ahead that could not, one alone. */
    private static void letOutTheLowest() {
        CastDesk x = new CastDesk();
        Houses.fill(x, 0, 0);
        int[] sizes = {3, 6, 4, 4};
        x.costume(1, 4);
        for (int size : sizes) {
            x.costume(0, size);
        }
        x.show(0);
        x.show(1);
        x.show(2);
        x.play();
        int[] due = {4, 3, 6, 5, 4};
        for (int costume = 0; costume < 5; costume++) {
            Due.is("lowest: costume " + costume, x.sizeOf(costume), due[costume]);
        }
        x.play();
        Due.is("lowest: one fits from then on", x.sizeOf(4), 4);
        x.setSize(0, 6);
        x.play();
        Due.is("lowest: one of 6 fits, one of 5 stays", x.sizeOf(3), 5);
        x.setSize(0, 7);
        x.show(3);
        x.play();
        Due.is("lowest: one of 6 that was never let out", x.sizeOf(2), 7);
    }

    /** Terms: "for each part, by rising parts, whose actor no costume for it fits": eight at once, and every other. */
    private static void letOutForEachPart() {
        for (int step = 1; step <= 2; step++) {
            CastDesk x = new CastDesk();
            x.setParts(8);
            for (int part = 0; part < 8; part++) {
                Houses.fill(x, part, part);
                x.costume(part, 4);
                if (part % step != 0) {
                    x.costume(part, 5);
                }
            }
            x.show(0);
            Due.is("each part: work", x.work(0), 8 / step);
            x.play();
            int costume = 0;
            for (int part = 0; part < 8; part++) {
                boolean fits = part % step != 0;
                Due.is("each part: part " + part, x.sizeOf(costume), fits ? 4 : 5);
                costume += fits ? 2 : 1;
            }
            Due.is("each part: no work behind it", x.work(1), 0);
        }
    }

    /** Terms: "By a show that is played": not without a show, not for who does not play, not for parts left out. */
    private static void letOutOnlyWhatIsPlayed() {
        CastDesk x = new CastDesk();
        x.costume(0, 5);
        x.costume(1, 5);
        Houses.fill(x, 0, 0, 1);
        Houses.fill(x, 1, 2);
        x.setSize(0, 6);
        x.setSize(2, 6);
        x.show(1);
        x.cold(0, 1, 1);
        x.play();
        Due.is("only played: no show", x.sizeOf(0), 5);
        x.play();
        Due.is("only played: another one played", x.played(0, 0), 1);
        Due.is("only played: the first actor is ill", x.sizeOf(0), 5);
        Due.is("only played: a part the play does not have", x.sizeOf(1), 5);
    }

    /** Terms: "Seats are numbered from 0": over all shows. */
    private static void seatsFrom0() {
        CastDesk x = onePart(2);
        Due.noIndex("seats: none yet", () -> x.refund(0));
        Due.is("seats: the first", x.sell(1, 5, CastDesk.NO_PROMISE, 0), 0);
        Due.noIndex("seats: one alone", () -> x.refund(1));
        Due.is("seats: of another show", x.sell(0, 5, CastDesk.NO_PROMISE, 0), 1);
        Due.noArgument("seats: refused", () -> x.sell(0, 0, CastDesk.NO_PROMISE, 0));
        Due.is("seats: refused ones get no number", x.sell(0, 5, CastDesk.NO_PROMISE, 0), 2);
    }

    /** Terms: "Seats are numbered from 0, at most 100": the step into the hundredth and the step behind it. */
    private static void seatsAtMost100() {
        CastDesk x = onePart(2);
        for (int seat = 0; seat < 99; seat++) {
            x.sell(seat % 2, 10, CastDesk.WHOLE, 0);
        }
        Due.noIndex("100 seats: 99 alone", () -> x.refund(99));
        Due.is("100 seats: the hundredth", x.sell(1, 1000, CastDesk.STANDS, 0), 99);
        Due.noState("100 seats: one behind it", () -> x.sell(1, 1, CastDesk.NO_PROMISE, 0));
        Due.noIndex("100 seats: 100 alone", () -> x.refund(100));
        Due.is("100 seats: takings", x.takings(), 99 * 10 + 1000);
        castRank(x, 4, 0);
        castRank(x, 2, 1);
        Due.is("100 seats: 50 are given back", x.play(), 500);
        Due.noState("100 seats: those given back count", () -> x.sell(1, 1, CastDesk.NO_PROMISE, 0));
        Due.is("100 seats: a quarter of 49 and a tenth of the last", x.play(), 49 * 3 + 100);
        Due.is("100 seats: the last", x.refund(99), 100);
    }

    /** Terms: "a seat is sold for a show that is AHEAD": up to its day, not after it. */
    private static void seatsForShowsAhead() {
        CastDesk x = onePart(2);
        castRank(x, 4, 1);
        Due.is("ahead alone: on the day", x.sell(0, 1, CastDesk.NO_PROMISE, 0), 0);
        x.play();
        Due.noState("ahead alone: PLAYED", () -> x.sell(0, 1, CastDesk.NO_PROMISE, 0));
        Due.is("ahead alone: the next one", x.sell(1, 1, CastDesk.NO_PROMISE, 0), 1);
        x.play();
        Due.noState("ahead alone: CANCELLED", () -> x.sell(1, 1, CastDesk.NO_PROMISE, 0));
    }

    /** Terms: "when it is played, it is 0 if the promise is kept": NO_PROMISE, whoever plays. */
    private static void noPromiseIsKept() {
        CastDesk x = onePart(5);
        for (int rank = 0; rank <= 4; rank++) {
            x.sell(rank, 100, CastDesk.NO_PROMISE, 0);
            castRank(x, rank, rank);
            Due.is("NO_PROMISE: rank " + rank, x.play(), rank == 4 ? 100 : 0);
        }
    }

    /** Terms: "that the one who is its first actor when the seat is sold plays it": whatever the rank is then. */
    private static void starWhenTheSeatIsSold() {
        CastDesk x = onePart(2);
        x.sell(0, 100, CastDesk.STAR, 0);
        x.sell(1, 100, CastDesk.STAR, 0);
        x.take(0, 0);
        x.sell(0, 100, CastDesk.STAR, 0);
        Due.is("STAR: left the row", x.play(), 50);
        Due.is("STAR: of the old first actor", x.refund(0), 50);
        Due.is("STAR: of the new first actor", x.refund(2), 0);
        x.put(0, 0);
        castRank(x, 4, 1);
        Due.is("STAR: nobody plays", x.play(), 100);
        CastDesk y = onePart(1);
        y.sell(0, 100, CastDesk.STAR, 0);
        y.take(0, 0);
        y.put(0, 0);
        for (int actor = 1; actor < 4; actor++) {
            y.cold(actor, 0, 0);
        }
        Due.is("STAR: plays with the rank 3", y.play(), 0);
        Due.is("STAR: who plays", y.played(0, 0), 0);
    }

    /** Terms: "STAR, for a part: that the one .. plays it": this part, by this actor; every other rank breaks it. */
    private static void starWithinTheRow() {
        CastDesk x = onePart(4);
        for (int rank = 0; rank < 4; rank++) {
            x.sell(rank, 100, CastDesk.STAR, 0);
            castRank(x, rank, rank);
            Due.is("STAR: rank " + rank, x.play(), rank == 0 ? 0 : 50);
        }
        CastDesk y = Houses.play(Houses.row(0, 1), Houses.row(2, 0));
        y.show(0);
        y.sell(0, 100, CastDesk.STAR, 0);
        y.sell(0, 30, CastDesk.STAR, 1);
        y.cold(2, 0, 0);
        Due.is("STAR: plays another part", y.play(), 50 + 15);
        Due.is("STAR: which one", y.played(0, 1), 0);
    }

    /** Terms: "WHOLE: that all parts of the play are played with the rank 0": the first, the last one is not. */
    private static void wholeOfAllParts() {
        for (int ill = 0; ill < 8; ill++) {
            CastDesk x = new CastDesk();
            x.setParts(8);
            for (int part = 0; part < 8; part++) {
                Houses.fill(x, part, part, 8 + part % 4);
                x.costume(part, 5);
            }
            x.show(0);
            x.show(1);
            x.show(2);
            for (int show = 0; show < 3; show++) {
                x.sell(show, 100, CastDesk.WHOLE, 7 - ill);
            }
            x.cold(ill, 1, 2);
            Due.is("WHOLE: all of rank 0", x.play(), 0);
            Due.is("WHOLE: all but the part " + ill, x.play(), 25);
            x.setParts(7);
            Due.is("WHOLE: the part 7 is left out, ill is " + ill, x.play(), ill == 7 ? 0 : 25);
        }
    }

    /** Terms: WHOLE "as the rows are when the show is played": not as they were when the seat was sold. */
    private static void wholeAsTheRowsAreThen() {
        CastDesk x = onePart(2);
        x.sell(0, 100, CastDesk.WHOLE, 0);
        x.take(0, 0);
        Due.is("WHOLE: another first actor", x.play(), 0);
        x.sell(1, 100, CastDesk.WHOLE, 0);
        x.take(0, 1);
        x.put(0, 1);
        x.cold(2, 1, 1);
        x.cold(3, 1, 1);
        Due.is("WHOLE: the first actor of then is the last now", x.play(), 25);
        Due.is("WHOLE: who plays", x.played(1, 0), 1);
    }

    /** Terms: "STANDS, for a part: that it is played with the rank 0 or 1": 1 keeps it, 2 and 3 break it. */
    private static void standsByRank() {
        CastDesk x = onePart(4);
        int[] due = {0, 0, 10, 10};
        for (int rank = 0; rank < 4; rank++) {
            x.sell(rank, 100, CastDesk.STANDS, 0);
            castRank(x, rank, rank);
            Due.is("STANDS: rank " + rank, x.play(), due[rank]);
        }
        CastDesk y = Houses.play(Houses.row(0, 1, 2), Houses.row(3, 4, 5));
        y.show(0);
        y.sell(0, 100, CastDesk.STANDS, 0);
        y.sell(0, 30, CastDesk.STANDS, 1);
        y.cold(3, 0, 0);
        y.cold(4, 0, 0);
        Due.is("STANDS: of its part alone", y.play(), 3);
    }

    /** Terms: STANDS "as its row is when the show is played". */
    private static void standsAsTheRowIsThen() {
        CastDesk x = onePart(2);
        x.sell(0, 100, CastDesk.STANDS, 0);
        castRank(x, 2, 0);
        x.take(0, 1);
        Due.is("STANDS: 2 moved up to 1", x.play(), 0);
        x.sell(1, 100, CastDesk.STANDS, 0);
        x.take(0, 0);
        x.put(0, 0);
        x.cold(2, 1, 1);
        x.cold(3, 1, 1);
        Due.is("STANDS: 0 went back to 2", x.play(), 10);
    }

    /**
     * Terms: "A promise STAR or STANDS for a part that the play does not have when the show is played is kept.":
     * for the last part that it has it is broken, for the next one and the part 7 it is kept.
     */
    private static void partsThePlayDoesNotHave() {
        for (int parts = 1; parts <= 8; parts++) {
            CastDesk x = thirdsForEveryPart();
            x.setParts(parts);
            Due.is("not had: " + parts + " parts", x.play(), 60 * parts);
            for (int part = 0; part < 8; part++) {
                Due.is("not had: STAR for " + part + " of " + parts, x.refund(2 * part), part < parts ? 50 : 0);
                Due.is("not had: STANDS for " + part + " of " + parts, x.refund(2 * part + 1), part < parts ? 10 : 0);
            }
            CastDesk y = thirdsForEveryPart();
            for (int part = 0; part < 8; part++) {
                y.take(part, 8 + part % 3);
            }
            y.setParts(parts);
            Due.is("not had: first actors who left, " + parts + " parts", y.play(), 50 * parts);
            Due.is("not had: STAR for the last part", y.refund(2 * parts - 2), 50);
            if (parts < 8) {
                Due.is("not had: STAR for the next part", y.refund(2 * parts), 0);
                Due.is("not had: STAR for the part 7", y.refund(14), 0);
            }
        }
    }

    /** Eight rows, of which the third alone can play, with a STAR and a STANDS sold for each: the seats 2p, 2p + 1. */
    private static CastDesk thirdsForEveryPart() {
        CastDesk x = new CastDesk();
        x.show(0);
        for (int part = 0; part < 8; part++) {
            x.put(part, 8 + part % 3);
            x.put(part, 11);
            Houses.fill(x, part, part);
            x.costume(part, 5);
            x.sell(0, 100, CastDesk.STAR, part);
            x.sell(0, 100, CastDesk.STANDS, part);
        }
        return x;
    }

    /** Terms: "When a show is CANCELLED, the refund of a seat is its price": for every promise, of every part. */
    private static void refundOfCancelled() {
        CastDesk x = onePart(1);
        x.put(7, 9);
        int[] prices = {1, 1000};
        for (int promise : PROMISES) {
            for (int price : prices) {
                x.sell(0, price, promise, price == 1 ? 0 : 7);
            }
        }
        castRank(x, 4, 0);
        Due.is("cancelled: all of it", x.play(), 4 * 1001);
        for (int seat = 0; seat < 8; seat++) {
            Due.is("cancelled: seat " + seat, x.refund(seat), prices[seat % 2]);
        }
        Due.is("cancelled: nothing is left", x.takings(), 0);
    }

    private static void rounded(int promise, int[] prices, int[] due) {
        CastDesk x = onePart(1);
        for (int price : prices) {
            x.sell(0, price, promise, 0);
        }
        castRank(x, 3, 0);
        x.play();
        for (int seat = 0; seat < prices.length; seat++) {
            Due.is("rounded up: promise " + promise + " for " + prices[seat], x.refund(seat), due[seat]);
        }
    }

    /** Terms: "of a broken STAR the half of the price, .. rounded up". */
    private static void halfRoundedUp() {
        rounded(CastDesk.STAR,
                new int[] {1, 2, 3, 4, 5, 998, 999, 1000},
                new int[] {1, 1, 2, 2, 3, 499, 500, 500});
    }

    /** Terms: "of a broken WHOLE a quarter, .. rounded up". */
    private static void quarterRoundedUp() {
        rounded(CastDesk.WHOLE,
                new int[] {1, 3, 4, 5, 8, 9, 996, 997, 1000},
                new int[] {1, 1, 1, 2, 2, 3, 249, 250, 250});
    }

    /** Terms: "of a broken STANDS a tenth, each rounded up". */
    private static void tenthRoundedUp() {
        rounded(CastDesk.STANDS,
                new int[] {1, 9, 10, 11, 20, 21, 990, 991, 1000},
                new int[] {1, 1, 1, 2, 2, 3, 99, 100, 100});
    }

    /** Promise 17: "day: the day of now to 1000": the day of now and the one before, as days pass. */
    private static void showFromTheDayOfNow() {
        CastDesk x = new CastDesk();
        for (int day = 0; day < 5; day++) {
            int now = day;
            Due.noArgument("17: the day before now", () -> x.show(now - 1));
            Due.is("17: the day of now", x.show(now), now);
            x.play();
            Due.is("17: it is played at once", x.stateOf(now), CastDesk.CANCELLED);
        }
    }

    /** Promise 17: "day: the day of now to 1000": the last day is one for a show, none is behind it. */
    private static void showOnTheLastDay() {
        CastDesk x = new CastDesk();
        Due.noArgument("17: the day 1001", () -> x.show(1001));
        Due.is("17: the day 1000", x.show(1000), 0);
        Due.noState("17: the day 1000 again", () -> x.show(1000));
        Due.is("17: the day 999", x.show(999), 1);
        Due.is("17: seats for it", x.sell(0, 1000, CastDesk.NO_PROMISE, 0), 0);
        Due.is("17: ahead", x.stateOf(0), CastDesk.AHEAD);
    }

    /** Promise 18: "price: 1 to 1000", "promise: NO_PROMISE, STAR, WHOLE or STANDS", "part: 0 to 7". */
    private static void sellFirstAndLastOfRanges() {
        CastDesk x = onePart(1);
        x.put(7, 0);
        int seats = 0;
        int sum = 0;
        for (int promise : PROMISES) {
            for (int part = 0; part < 8; part += 7) {
                Due.is("18: price 1", x.sell(0, 1, promise, part), seats++);
                Due.is("18: price 1000", x.sell(0, 1000, promise, part), seats++);
                sum += 1001;
                Due.is("18: takings", x.takings(), sum);
            }
        }
        Due.noArgument("18: price 0", () -> x.sell(0, 0, CastDesk.STANDS, 7));
        Due.noArgument("18: price 1001", () -> x.sell(0, 1001, CastDesk.STANDS, 7));
        Due.noArgument("18: behind STANDS", () -> x.sell(0, 1, CastDesk.STANDS + 1, 7));
        Due.noArgument("18: ahead of NO_PROMISE", () -> x.sell(0, 1, CastDesk.NO_PROMISE - 1, 0));
        Due.is("18: nothing came of them", x.takings(), sum);
    }

    /** Promise 18: "part: 0 to 7: the part of the promise, whatever this is": NO_PROMISE and WHOLE need one too. */
    private static void sellPartWhateverThePromise() {
        CastDesk x = onePart(1);
        for (int promise : PROMISES) {
            int what = promise;
            Due.noIndex("18: part 8, promise " + promise, () -> x.sell(0, 1, what, 8));
            Due.noIndex("18: part -1, promise " + promise, () -> x.sell(0, 1, what, -1));
        }
        Due.is("18: no seat came of them", x.sell(0, 1, CastDesk.WHOLE, 7), 0);
    }

    /** Promise 18: "or STAR is promised of a part without a first actor": the others are sold; so is STAR with one. */
    private static void sellStarWithoutFirstActor() {
        CastDesk x = onePart(1);
        Due.noState("18: a STAR of an empty row", () -> x.sell(0, 1, CastDesk.STAR, 7));
        Due.is("18: NO_PROMISE of an empty row", x.sell(0, 1, CastDesk.NO_PROMISE, 7), 0);
        Due.is("18: WHOLE of an empty row", x.sell(0, 1, CastDesk.WHOLE, 7), 1);
        Due.is("18: STANDS of an empty row", x.sell(0, 1, CastDesk.STANDS, 7), 2);
        x.put(7, 11);
        Due.is("18: a first actor who does not know it", x.sell(0, 1, CastDesk.STAR, 7), 3);
        x.take(7, 11);
        Due.noState("18: a STAR of a row that was emptied", () -> x.sell(0, 1, CastDesk.STAR, 7));
    }

    /** Promise 19: "with its show if there is one; then the next day begins." */
    private static void playWithoutShow() {
        CastDesk x = Houses.play(Houses.row(0));
        x.show(2);
        x.sell(0, 1000, CastDesk.WHOLE, 0);
        Due.is("19: nothing is refunded without a show", x.play(), 0);
        Due.is("20: the next day", x.day(), 1);
        Due.is("21: it is ahead", x.stateOf(0), CastDesk.AHEAD);
        Due.is("19: nothing again", x.play(), 0);
        Due.is("20: its day", x.day(), 2);
        x.play();
        Due.is("21: it is played", x.stateOf(0), CastDesk.PLAYED);
        Due.is("20: the day behind it", x.day(), 3);
    }

    /** Promise 19: "Returns what is refunded by that.": 0 without seats, 100 times 1000 at most. */
    private static void playReturnsWhatIsRefunded() {
        CastDesk x = new CastDesk();
        x.show(0);
        x.show(1);
        Due.is("19: cancelled without seats", x.play(), 0);
        for (int seat = 0; seat < 100; seat++) {
            x.sell(1, 1000, seat % 2 * 2, 7);
        }
        Due.is("24: the most", x.takings(), 100000);
        Due.is("19: the most", x.play(), 100000);
        Due.is("24: the least", x.takings(), 0);
        Due.is("19: nothing more on the day behind it", x.play(), 0);
    }

    /** Promise 19: "Lets the day be played, with its show": seats of others, over or ahead, are left alone. */
    private static void playNothingForOtherShows() {
        CastDesk x = onePart(3);
        for (int show = 0; show < 3; show++) {
            x.sell(show, 40, CastDesk.WHOLE, 0);
        }
        for (int show = 0; show < 3; show++) {
            castRank(x, 1, show);
        }
        for (int show = 0; show < 3; show++) {
            Due.is("19: its own alone", x.play(), 10);
            Due.is("24: so far", x.takings(), 120 - 10 * (show + 1));
            for (int seat = 0; seat < 3; seat++) {
                Due.is("23: seat " + seat, x.refund(seat), seat <= show ? 10 : 0);
            }
        }
    }

    /**
     * Promise 19: "Throws IllegalStateException if the day is 1000", and promise 20. It takes more than 512 calls to
     * get there, so the document leaves free what is answered here; the program does as promise 19 says all the same.
     */
    private static void playOnTheLastDay() {
        CastDesk x = Houses.play(Houses.row(0));
        x.show(999);
        x.show(1000);
        x.sell(1, 10, CastDesk.NO_PROMISE, 0);
        for (int day = 0; day < 999; day++) {
            x.play();
        }
        Due.is("20: the last day but one", x.day(), 999);
        Due.is("19: the last day but one is played", x.play(), 0);
        Due.is("20: the last day", x.day(), 1000);
        Due.is("21: the last but one", x.stateOf(0), CastDesk.PLAYED);
        Due.noState("19: the last day is not played", () -> x.play());
        Due.noState("19: nor later", () -> x.play());
        Due.is("20: it stays", x.day(), 1000);
        Due.is("21: ahead for ever", x.stateOf(1), CastDesk.AHEAD);
        Due.is("24: nothing is refunded", x.takings(), 10);
        Due.is("9: a cold of the last day", x.cold(0, 1000, 1000), 1);
        Due.noArgument("9: none of the day before it", () -> x.cold(0, 999, 1000));
        Due.noState("17: no second show", () -> x.show(1000));
        Due.noArgument("17: none the day before it", () -> x.show(999));
        Due.is("18: seats are sold", x.sell(1, 10, CastDesk.STAR, 0), 1);
    }

    /** Promise 21: "Returns AHEAD, PLAYED or CANCELLED.": of the first and the last show. */
    private static void stateOfEveryShow() {
        CastDesk x = onePart(3);
        castRank(x, 4, 1);
        x.play();
        x.play();
        Due.is("21: the first", x.stateOf(0), CastDesk.PLAYED);
        Due.is("21: the one between", x.stateOf(1), CastDesk.CANCELLED);
        Due.is("21: the last", x.stateOf(2), CastDesk.AHEAD);
        Due.noIndex("21: one behind it", () -> x.stateOf(3));
        Due.noIndex("21: one ahead", () -> x.stateOf(-1));
    }

    /** Promise 22: "part: 0 to 7", "Returns the actor": the actors 0 and 11 in the parts 0 and 7. */
    private static void playedByFirstAndLast() {
        CastDesk x = new CastDesk();
        x.setParts(8);
        for (int part = 0; part < 8; part++) {
            Houses.fill(x, part, part == 0 ? 11 : part == 7 ? 0 : part);
            x.costume(part, 5);
        }
        x.show(0);
        x.play();
        Due.is("22: the part 0", x.played(0, 0), 11);
        Due.is("22: the part 7", x.played(0, 7), 0);
        Due.is("22: the part 6", x.played(0, 6), 6);
        Due.noIndex("22: the part 8", () -> x.played(0, 8));
        Due.noIndex("22: the part -1", () -> x.played(0, -1));
    }

    /** Promise 22: "NONE if the show was not PLAYED, or the play did not have the part.": by the parts of then. */
    private static void playedNobody() {
        CastDesk x = Houses.play(Houses.row(0), Houses.row(1), Houses.row(2));
        for (int day = 0; day < 3; day++) {
            x.show(day);
        }
        x.setParts(2);
        x.play();
        x.setParts(3);
        Due.is("22: the last part that it had", x.played(0, 1), 1);
        Due.is("22: the part that it did not have", x.played(0, 2), CastDesk.NONE);
        x.cold(0, 1, 1);
        x.play();
        x.setParts(1);
        Due.is("22: a part that it has no more", x.played(0, 1), 1);
        for (int part = 0; part < 8; part++) {
            Due.is("22: CANCELLED, part " + part, x.played(1, part), CastDesk.NONE);
            Due.is("22: AHEAD, part " + part, x.played(2, part), CastDesk.NONE);
        }
    }

    /** Promise 23: "0 as long as its show is AHEAD.": up to its day, also if there is no cast for it any more. */
    private static void refundWhileAhead() {
        CastDesk x = onePart(0);
        x.show(1);
        x.sell(0, 10, CastDesk.STANDS, 0);
        castRank(x, 4, 1);
        x.play();
        Due.is("23: no cast any more", x.strain(1), CastDesk.NONE);
        Due.is("23: but ahead", x.refund(0), 0);
        Due.is("24: nothing less", x.takings(), 10);
        Due.is("19: refunded then", x.play(), 10);
        Due.is("23: refunded", x.refund(0), 10);
    }

    /** Promise 23: "Returns the refund": once it is due it stays, whatever comes later. */
    private static void refundStays() {
        CastDesk x = onePart(2);
        x.sell(0, 100, CastDesk.STAR, 0);
        x.sell(0, 100, CastDesk.STANDS, 0);
        castRank(x, 1, 0);
        x.play();
        x.take(0, 0);
        x.take(0, 1);
        x.setParts(8);
        x.play();
        Due.is("23: broken stays broken", x.refund(0), 50);
        Due.is("23: kept stays kept", x.refund(1), 0);
        Due.noIndex("23: no third one", () -> x.refund(2));
        Due.noIndex("23: none ahead", () -> x.refund(-1));
    }

    /** Promise 24: "what all seats were sold for, less all refunds so far": 0 at first, and 0 of what is cancelled. */
    private static void takingsLeastAndGreatest() {
        CastDesk x = onePart(2);
        Due.is("24: at first", x.takings(), 0);
        x.sell(0, 1, CastDesk.STAR, 0);
        Due.is("24: one", x.takings(), 1);
        x.sell(1, 1000, CastDesk.NO_PROMISE, 0);
        Due.is("24: both", x.takings(), 1001);
        castRank(x, 1, 0);
        castRank(x, 4, 1);
        x.play();
        Due.is("24: the half of 1 is 1", x.takings(), 1000);
        x.play();
        Due.is("24: all is given back", x.takings(), 0);
    }
}
