/** The promises 17 to 24: shows, seats, what a played day does, refunds and takings. */
public final class ShowsTest {
    public static void main(String[] args) {
        show();
        fortyShows();
        sell();
        hundredSeats();
        playDays();
        playedCast();
        letOutByPlay();
        lowestCostume();
        cancelled();
        star();
        whole();
        stands();
        partsLeftOut();
        rounding();
        byWhatIsSoThen();
        Due.end("ShowsTest");
    }

    /** Two parts: the actors 0, 1, 2 for the part 0 and 3, 4, 5 for the part 1; a show on the day 0. */
    private static CastDesk twoParts() {
        CastDesk x = new CastDesk();
        x.setParts(2);
        for (int actor = 0; actor < 6; actor++) {
            x.put(actor / 3, actor);
            x.learn(actor, actor / 3, true);
        }
        x.costume(0, 5);
        x.costume(1, 5);
        x.show(0);
        return x;
    }

    private static void show() {
        CastDesk x = new CastDesk();
        Due.is("17: first", x.show(1000), 0);
        Due.is("17: second", x.show(0), 1);
        Due.noState("17: the same day", () -> x.show(0));
        Due.noState("17: the same last day", () -> x.show(1000));
        Due.noArgument("17: day -1", () -> x.show(-1));
        Due.noArgument("17: day 1001", () -> x.show(1001));
        Due.is("21: first", x.stateOf(0), CastDesk.AHEAD);
        Due.is("21: second", x.stateOf(1), CastDesk.AHEAD);
        Due.noIndex("21: 2", () -> x.stateOf(2));
        Due.noIndex("21: -1", () -> x.stateOf(-1));
        x.play();
        Due.noArgument("17: a day before now", () -> x.show(0));
        Due.is("17: now", x.show(1), 2);
    }

    private static void fortyShows() {
        CastDesk x = new CastDesk();
        for (int number = 0; number < 40; number++) {
            Due.is("17: number", x.show(2 * number), number);
        }
        Due.noState("17: the 41st", () -> x.show(1));
        Due.noArgument("17: the 41st, wrong day", () -> x.show(1001));
        x.play();
        Due.noState("17: a cancelled show counts", () -> x.show(1));
        Due.is("21: 0", x.stateOf(0), CastDesk.CANCELLED);
        Due.is("21: 39", x.stateOf(39), CastDesk.AHEAD);
        Due.noIndex("21: 40", () -> x.stateOf(40));
    }

    private static void sell() {
        CastDesk x = twoParts();
        Due.is("18: first", x.sell(0, 1, CastDesk.NO_PROMISE, 7), 0);
        Due.is("18: second", x.sell(0, 1000, CastDesk.STAR, 1), 1);
        Due.is("24: both", x.takings(), 1001);
        Due.noIndex("18: show 1", () -> x.sell(1, 1, 0, 0));
        Due.noIndex("18: show -1", () -> x.sell(-1, 1, 0, 0));
        Due.noIndex("18: part 8", () -> x.sell(0, 1, 0, 8));
        Due.noIndex("18: part -1", () -> x.sell(0, 1, 0, -1));
        Due.noIndex("18: part and price wrong", () -> x.sell(0, 0, 4, 8));
        Due.noArgument("18: price 0", () -> x.sell(0, 0, 0, 0));
        Due.noArgument("18: price 1001", () -> x.sell(0, 1001, 0, 0));
        Due.noArgument("18: promise 4", () -> x.sell(0, 1, 4, 0));
        Due.noArgument("18: promise -1", () -> x.sell(0, 1, -1, 0));
        Due.noArgument("18: price wrong, no first actor", () -> x.sell(0, 0, CastDesk.STAR, 7));
        Due.noState("18: no first actor", () -> x.sell(0, 1, CastDesk.STAR, 7));
        Due.is("18: WHOLE without a first actor", x.sell(0, 1, CastDesk.WHOLE, 7), 2);
        Due.is("18: STANDS without a first actor", x.sell(0, 1, CastDesk.STANDS, 7), 3);
        Due.is("24: nothing more", x.takings(), 1003);
        Due.is("23: ahead", x.refund(3), 0);
        Due.noIndex("23: 4", () -> x.refund(4));
        Due.noIndex("23: -1", () -> x.refund(-1));
        x.play();
        Due.noState("18: played", () -> x.sell(0, 1, 0, 0));
        Due.noArgument("18: played, wrong price", () -> x.sell(0, 0, 0, 0));
        Due.is("24: all kept", x.takings(), 1003);
    }

    private static void hundredSeats() {
        CastDesk x = new CastDesk();
        x.show(0);
        for (int number = 0; number < 100; number++) {
            Due.is("18: number", x.sell(0, 1000, CastDesk.NO_PROMISE, 0), number);
        }
        Due.noState("18: the 101st", () -> x.sell(0, 1, 0, 0));
        Due.noArgument("18: the 101st, wrong price", () -> x.sell(0, 1001, 0, 0));
        Due.is("24: all", x.takings(), 100000);
        Due.is("19: all back", x.play(), 100000);
        Due.is("23: the last one", x.refund(99), 1000);
        Due.noIndex("23: 100", () -> x.refund(100));
        Due.is("24: nothing left", x.takings(), 0);
    }

    private static void playDays() {
        CastDesk x = twoParts();
        x.show(2);
        Due.is("19: a show", x.play(), 0);
        Due.is("20: one day on", x.day(), 1);
        Due.is("19: no show", x.play(), 0);
        Due.is("20: two days on", x.day(), 2);
        Due.is("21: the first", x.stateOf(0), CastDesk.PLAYED);
        Due.is("21: the second", x.stateOf(1), CastDesk.AHEAD);
        x.play();
        Due.is("21: the second now", x.stateOf(1), CastDesk.PLAYED);
    }

    private static void playedCast() {
        CastDesk x = twoParts();
        x.show(1);
        x.cold(0, 0, 0);
        Due.is("22: ahead", x.played(0, 0), CastDesk.NONE);
        x.play();
        Due.is("22: part 0", x.played(0, 0), 1);
        Due.is("22: part 1", x.played(0, 1), 3);
        Due.is("22: part 2", x.played(0, 2), CastDesk.NONE);
        Due.is("22: part 7", x.played(0, 7), CastDesk.NONE);
        x.take(0, 1);
        x.setParts(1);
        x.play();
        Due.is("22: as it was", x.played(0, 0), 1);
        Due.is("22: the part is left out later", x.played(0, 1), 3);
        Due.is("22: the second show", x.played(1, 0), 0);
        Due.is("22: not in the play then", x.played(1, 1), CastDesk.NONE);
        Due.noIndex("22: show 2", () -> x.played(2, 0));
        Due.noIndex("22: show -1", () -> x.played(-1, 0));
        Due.noIndex("22: part 8", () -> x.played(0, 8));
        Due.noIndex("22: part -1", () -> x.played(0, -1));
    }

    private static void letOutByPlay() {
        CastDesk x = twoParts();
        x.setSize(0, 6);
        Due.is("14: one dress", x.work(0), 1);
        x.play();
        Due.is("8: let out", x.sizeOf(0), 6);
        Due.is("8: not let out", x.sizeOf(1), 5);
        Due.is("14: no more work", x.work(1), 0);
        x.setSize(0, 7);
        x.show(1);
        x.setSize(1, 7);
        x.setSize(2, 5);
        Due.is("12: let out once alone", x.strain(1), CastDesk.NONE);
        x.play();
        Due.is("21: no cast", x.stateOf(1), CastDesk.CANCELLED);
        Due.is("8: for good", x.sizeOf(0), 6);
    }

    private static void lowestCostume() {
        CastDesk x = new CastDesk();
        x.put(0, 0);
        x.learn(0, 0, true);
        x.costume(1, 4);
        x.costume(0, 3);
        x.costume(0, 4);
        x.costume(0, 4);
        x.show(0);
        x.show(1);
        x.play();
        Due.is("19: of another part", x.sizeOf(0), 4);
        Due.is("19: too small", x.sizeOf(1), 3);
        Due.is("19: the lowest that could fit", x.sizeOf(2), 5);
        Due.is("19: the next", x.sizeOf(3), 4);
        x.play();
        Due.is("19: one fits already", x.sizeOf(3), 4);
        x.setSize(0, 6);
        x.costume(0, 5);
        x.show(2);
        x.play();
        Due.is("19: let out before", x.sizeOf(2), 5);
        Due.is("19: not let out before", x.sizeOf(4), 6);
    }

    private static void cancelled() {
        CastDesk x = twoParts();
        x.show(1);
        for (int promise = 0; promise < 4; promise++) {
            x.sell(0, 11 + promise, promise, 1);
            x.sell(1, 100, promise, 1);
        }
        x.setSize(0, 6);
        x.cold(3, 0, 0);
        x.cold(4, 0, 0);
        x.cold(5, 0, 0);
        Due.is("19: all of the show", x.play(), 11 + 12 + 13 + 14);
        Due.is("21: cancelled", x.stateOf(0), CastDesk.CANCELLED);
        Due.is("22: nobody", x.played(0, 0), CastDesk.NONE);
        Due.is("8: no dress is let out", x.sizeOf(0), 5);
        for (int promise = 0; promise < 4; promise++) {
            Due.is("23: whole price", x.refund(2 * promise), 11 + promise);
            Due.is("23: another show", x.refund(2 * promise + 1), 0);
        }
        Due.is("24: less the refunds", x.takings(), 400);
        Due.noState("18: cancelled", () -> x.sell(0, 1, 0, 0));
        Due.is("19: all kept", x.play(), 0);
    }

    private static void star() {
        CastDesk x = twoParts();
        x.show(1);
        x.sell(0, 100, CastDesk.STAR, 0);
        x.sell(1, 100, CastDesk.STAR, 0);
        x.take(0, 0);
        x.sell(0, 10, CastDesk.STAR, 0);
        x.put(0, 0);
        Due.is("19: the first actor when it was sold", x.play(), 50);
        Due.is("23: broken", x.refund(0), 50);
        Due.is("23: kept", x.refund(2), 0);
        x.cold(1, 1, 1);
        x.cold(2, 1, 1);
        Due.is("19: kept with the rank 2", x.play(), 0);
        Due.is("22: plays", x.played(1, 0), 0);

        CastDesk y = twoParts();
        y.learn(0, 1, true);
        y.take(1, 3);
        y.take(1, 4);
        y.put(1, 0);
        y.cold(5, 0, 0);
        y.sell(0, 100, CastDesk.STAR, 0);
        Due.is("19: the star plays another part", y.play(), 50);
        Due.is("22: another part", y.played(0, 1), 0);
    }

    private static void whole() {
        CastDesk x = twoParts();
        x.show(1);
        x.show(2);
        x.sell(0, 100, CastDesk.WHOLE, 0);
        x.sell(1, 100, CastDesk.WHOLE, 0);
        x.sell(2, 100, CastDesk.WHOLE, 7);
        Due.is("19: kept", x.play(), 0);
        x.cold(3, 1, 1);
        Due.is("19: broken in another part", x.play(), 25);
        x.take(0, 0);
        Due.is("19: by the rows of then", x.play(), 0);
        x.setParts(3);
        Due.is("24: one quarter less", x.takings(), 275);
    }

    private static void stands() {
        CastDesk x = twoParts();
        x.show(1);
        x.show(2);
        x.sell(0, 100, CastDesk.STANDS, 1);
        x.sell(1, 100, CastDesk.STANDS, 1);
        x.sell(1, 100, CastDesk.STANDS, 0);
        x.sell(2, 100, CastDesk.STANDS, 1);
        x.cold(3, 0, 2);
        Due.is("19: the rank 1", x.play(), 0);
        x.cold(4, 1, 2);
        Due.is("19: the rank 2", x.play(), 10);
        Due.is("23: the part of the seat", x.refund(1), 10);
        Due.is("23: another part", x.refund(2), 0);
        x.take(1, 4);
        Due.is("19: by the rows of then", x.play(), 0);
    }

    private static void partsLeftOut() {
        CastDesk x = twoParts();
        x.show(1);
        x.cold(0, 0, 1);
        x.cold(1, 0, 1);
        x.cold(3, 0, 1);
        x.cold(4, 0, 1);
        for (int show = 0; show < 2; show++) {
            x.sell(show, 100, CastDesk.STAR, 1);
            x.sell(show, 100, CastDesk.STANDS, 1);
        }
        x.setParts(1);
        Due.is("19: parts that the play does not have", x.play(), 0);
        x.setParts(2);
        Due.is("19: parts that it has again", x.play(), 60);
        Due.is("23: STAR of the first", x.refund(0), 0);
        Due.is("23: STANDS of the first", x.refund(1), 0);
        Due.is("23: STAR of the second", x.refund(2), 50);
        Due.is("23: STANDS of the second", x.refund(3), 10);

        CastDesk y = twoParts();
        y.sell(0, 100, CastDesk.STAR, 1);
        y.take(1, 3);
        y.setParts(1);
        Due.is("19: a star who left the row of a part left out", y.play(), 0);
    }

    private static void rounding() {
        int[] prices = {1, 2, 3, 4, 5, 9, 10, 11, 99, 1000};
        int[] halves = {1, 1, 2, 2, 3, 5, 5, 6, 50, 500};
        int[] quarters = {1, 1, 1, 1, 2, 3, 3, 3, 25, 250};
        int[] tenths = {1, 1, 1, 1, 1, 1, 1, 2, 10, 100};
        CastDesk x = twoParts();
        for (int price : prices) {
            x.sell(0, price, CastDesk.STAR, 0);
            x.sell(0, price, CastDesk.WHOLE, 0);
            x.sell(0, price, CastDesk.STANDS, 0);
            x.sell(0, price, CastDesk.NO_PROMISE, 0);
        }
        x.cold(0, 0, 0);
        x.cold(1, 0, 0);
        x.play();
        for (int place = 0; place < prices.length; place++) {
            String price = " of " + prices[place];
            Due.is("23: half" + price, x.refund(4 * place), halves[place]);
            Due.is("23: quarter" + price, x.refund(4 * place + 1), quarters[place]);
            Due.is("23: tenth" + price, x.refund(4 * place + 2), tenths[place]);
            Due.is("23: no promise" + price, x.refund(4 * place + 3), 0);
        }
        Due.is("24: less all", x.takings(), 4 * 1144 - 575 - 290 - 119);
    }

    private static void byWhatIsSoThen() {
        CastDesk x = twoParts();
        x.show(1);
        x.sell(1, 8, CastDesk.WHOLE, 0);
        Due.is("12: now", x.strain(1), 0);
        x.play();
        x.learn(3, 1, false);
        x.take(0, 0);
        Due.is("19: then", x.play(), 2);
        Due.is("22: the next one", x.played(1, 0), 1);
        Due.is("22: the one who knows it", x.played(1, 1), 4);
        x.learn(3, 1, true);
        Due.is("23: no refund changes later", x.refund(0), 2);
    }
}
