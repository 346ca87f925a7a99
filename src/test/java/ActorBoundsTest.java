/**
 * The boundary cases of "Actors, parts, costumes" in the document's Terms and of the promises 1 to 11, a method
 * for each sentence. What is refused on both sides of a range is in RefusedTest, with the look that nothing changed.
 */
public final class ActorBoundsTest {
    public static void main(String[] args) {
        oneObjectFor512Calls();
        actors0To11();
        sizes0To9And5AtFirst();
        partsKnownNoneAtFirst();
        partsKnownAtMost4();
        parts0To7();
        playOf1PartAtFirst();
        playFromPart0On();
        rowsEmptyAtFirst();
        rowsUpTo4();
        rowsInTheirOrder();
        firstOfTheRow();
        costumesFrom0();
        costumesAtMost40();
        costumeFitsItsSizeAlone();
        costumeCouldFitOneMore();
        sizesAtTheEnds();
        costumeForOnePart();
        letOutOnceForGood();
        daysFrom0();
        coldBothDaysIncluded();
        coldsCountTogether();
        newTheatre();
        setPartsReturnsBefore();
        setSizeReturnsBefore();
        learnReturnsHowMany();
        learnAgainWithFour();
        forgetNothing();
        putReturnsTheRank();
        takeReturnsTheRankBefore();
        takeMovesUp();
        takeMakesRoom();
        costumeReturnsItsNumber();
        sizeOfFirstAndLast();
        coldFromTheDayOfNow();
        coldToTheLastDay();
        coldOfOneDay();
        coldReturnsNewDays();
        isIllFirstAndLastDay();
        canPlayFirstAndLast();
        canPlayPastDays();
        Due.end("ActorBoundsTest");
    }

    /** What it is: "An object is used for at most 512 calls after it has been made": the last one still answers. */
    private static void oneObjectFor512Calls() {
        CastDesk x = Houses.play(Houses.row(0));
        x.show(504);
        x.sell(0, 9, CastDesk.STAR, 0);
        int callsSoFar = 6;
        for (int call = callsSoFar + 1; call < 512; call++) {
            x.play();
        }
        Due.is("512 calls: the last", x.day(), 505);
    }

    /** Terms: "There are the actors 0 to 11": the least and the greatest are told apart from all others. */
    private static void actors0To11() {
        CastDesk x = new CastDesk();
        for (int actor = 0; actor < 12; actor++) {
            Due.is("actors: size of " + actor, x.setSize(actor, actor % 10), 5);
            Due.is("actors: learns " + actor, x.learn(actor, actor % 8, true), 1);
            Due.is("actors: put " + actor, x.put(actor % 8, actor), actor / 8);
            Due.is("actors: cold " + actor, x.cold(actor, actor, actor), 1);
        }
        for (int actor = 0; actor < 12; actor++) {
            Due.is("actors: size again " + actor, x.setSize(actor, 5), actor % 10);
            Due.is("actors: ill " + actor, x.isIll(actor, actor), true);
            Due.is("actors: ill a day later " + actor, x.isIll(actor, actor + 1), false);
            Due.is("actors: take " + actor, x.take(actor % 8, actor), 0);
        }
    }

    /** Terms: "each with a size, 0 to 9, 5 at first". */
    private static void sizes0To9And5AtFirst() {
        CastDesk x = new CastDesk();
        for (int actor = 0; actor < 12; actor += 11) {
            Due.is("size: first of " + actor, x.setSize(actor, 0), 5);
            Due.is("size: least of " + actor, x.setSize(actor, 9), 0);
            Due.is("size: greatest of " + actor, x.setSize(actor, 9), 9);
        }
    }

    /** Terms: "the parts that the actor knows, none at first". */
    private static void partsKnownNoneAtFirst() {
        CastDesk x = new CastDesk();
        for (int actor = 0; actor < 12; actor++) {
            for (int part = 0; part < 8; part++) {
                Due.is("knows: none at first", x.learn(actor, part, false), 0);
            }
        }
    }

    /** Terms: "the parts that the actor knows, .. at most 4": the step into the fourth and the step behind it. */
    private static void partsKnownAtMost4() {
        for (int actor = 0; actor < 12; actor += 11) {
            CastDesk x = new CastDesk();
            int who = actor;
            for (int part = 4; part < 8; part++) {
                Due.is("knows: step " + part, x.learn(who, part, true), part - 3);
            }
            Due.noState("knows: a fifth", () -> x.learn(who, 0, true));
            Due.noState("knows: a fifth again", () -> x.learn(who, 3, true));
            Due.is("knows: forgets one", x.learn(who, 7, false), 3);
            Due.is("knows: a fourth again", x.learn(who, 0, true), 4);
            Due.noState("knows: not the one forgotten", () -> x.learn(who, 7, true));
        }
    }

    /** Terms: "There are the parts 0 to 7": the least and the greatest, in and outside the play. */
    private static void parts0To7() {
        CastDesk x = new CastDesk();
        for (int part = 0; part < 8; part += 7) {
            Due.is("parts: learn", x.learn(part, part, true), 1);
            Due.is("parts: put", x.put(part, part), 0);
            Due.is("parts: costume", x.costume(part, 5), part / 7);
            Due.is("parts: can play", x.canPlay(part, part, 0), true);
            Due.is("parts: take", x.take(part, part), 0);
        }
    }

    /** Terms: "The play has as many parts as are told, .. 1 at first". */
    private static void playOf1PartAtFirst() {
        CastDesk x = new CastDesk();
        x.costume(0, 5);
        x.put(0, 3);
        x.learn(3, 0, true);
        Due.is("play: the part 0 makes a cast", x.strain(0), 0);
        Due.is("play: part 0", x.actorFor(0, 0), 3);
        Due.is("play: part 1", x.actorFor(0, 1), CastDesk.NONE);
        Due.is("play: 1 at first", x.setParts(8), 1);
    }

    /** Terms: "The play has as many parts as are told, from the part 0 on": the last part in, the next one out. */
    private static void playFromPart0On() {
        for (int parts = 1; parts <= 8; parts++) {
            CastDesk x = new CastDesk();
            x.setParts(parts);
            for (int part = 0; part < 8; part++) {
                Houses.fill(x, part, part);
                x.costume(part, 5);
            }
            for (int part = 0; part < 8; part++) {
                Due.is("play of " + parts + ": part " + part, x.actorFor(0, part), part < parts ? part : CastDesk.NONE);
            }
            x.cold(parts - 1, 0, 0);
            Due.is("play of " + parts + ": needs its last part", x.strain(0), CastDesk.NONE);
            if (parts < 8) {
                x.cold(parts, 1, 1);
                Due.is("play of " + parts + ": does not need the next part", x.strain(1), 0);
            }
        }
    }

    /** Terms: "Each part has a row of up to 4 actors, .. none at first". */
    private static void rowsEmptyAtFirst() {
        CastDesk x = new CastDesk();
        for (int part = 0; part < 8; part++) {
            for (int actor = 0; actor < 12; actor++) {
                int row = part;
                int who = actor;
                Due.noState("row: none at first", () -> x.take(row, who));
            }
        }
    }

    /** Terms: "Each part has a row of up to 4 actors": the step into the fourth and the step behind it. */
    private static void rowsUpTo4() {
        for (int part = 0; part < 8; part += 7) {
            CastDesk x = new CastDesk();
            int row = part;
            for (int rank = 0; rank < 4; rank++) {
                Due.is("row: step " + rank, x.put(row, 11 - rank), rank);
            }
            Due.noState("row: a fifth", () -> x.put(row, 7));
            Due.noState("row: the first one again", () -> x.put(row, 11));
            Due.noState("row: the last one again", () -> x.put(row, 8));
            Due.is("row: the next part has its own", x.put((row + 1) % 8, 7), 0);
            Due.is("row: the last one is there", x.take(row, 8), 3);
        }
    }

    /** Terms: "a row of up to 4 actors, in their order" and "The rank .. is the place in its row, from 0". */
    private static void rowsInTheirOrder() {
        CastDesk x = Houses.play(Houses.row(9, 2, 11, 0));
        int[] order = {9, 2, 11, 0};
        for (int rank = 0; rank < 4; rank++) {
            Due.is("rank: " + rank, x.strain(rank), rank);
            Due.is("rank: who has " + rank, x.actorFor(rank, 0), order[rank]);
            x.cold(order[rank], 0, 1000);
        }
        Due.is("rank: nobody behind 3", x.strain(4), CastDesk.NONE);
    }

    /** Terms: "the first one of it is the first actor of the part": of a row of one, and after it was taken. */
    private static void firstOfTheRow() {
        CastDesk x = Houses.play(Houses.row(4));
        x.show(0);
        x.sell(0, 100, CastDesk.STAR, 0);
        x.put(0, 5);
        x.learn(5, 0, true);
        x.sell(0, 100, CastDesk.STAR, 0);
        x.take(0, 4);
        x.sell(0, 100, CastDesk.STAR, 0);
        Due.is("first: the first two were of another one", x.play(), 100);
        Due.is("first: the third was of the one behind", x.refund(2), 0);
    }

    /** Terms: "Costumes are numbered from 0". */
    private static void costumesFrom0() {
        CastDesk x = new CastDesk();
        Due.noIndex("costumes: none yet", () -> x.sizeOf(0));
        Due.is("costumes: the first", x.costume(7, 9), 0);
        Due.is("costumes: its size", x.sizeOf(0), 9);
        Due.noIndex("costumes: one alone", () -> x.sizeOf(1));
    }

    /** Terms: "Costumes are numbered from 0, at most 40": the step into the fortieth and the step behind it. */
    private static void costumesAtMost40() {
        CastDesk x = new CastDesk();
        for (int number = 0; number < 39; number++) {
            x.costume(0, 0);
        }
        Due.noIndex("costumes: 39 alone", () -> x.sizeOf(39));
        Due.is("costumes: the fortieth", x.costume(0, 5), 39);
        Due.noState("costumes: one behind it", () -> x.costume(0, 5));
        Due.noState("costumes: one for another part", () -> x.costume(7, 0));
        Due.noIndex("costumes: 40 alone", () -> x.sizeOf(40));
        Houses.fill(x, 0, 11);
        Due.is("costumes: the fortieth fits", x.canPlay(11, 0, 0), true);
        Due.is("costumes: the fortieth fits as it is", x.work(0), 0);
        x.setSize(11, 6);
        x.show(0);
        x.play();
        Due.is("costumes: the fortieth is let out", x.sizeOf(39), 6);
        Due.is("costumes: the one ahead is not", x.sizeOf(38), 0);
    }

    /** Terms: "A costume fits an actor if its size is that of the actor": one less and one more do not. */
    private static void costumeFitsItsSizeAlone() {
        for (int size = 0; size < 10; size++) {
            CastDesk x = new CastDesk();
            Houses.fill(x, 0, 0);
            x.costume(0, size);
            x.setSize(0, size);
            Due.is("fits: without work " + size, x.work(0), 0);
            if (size > 0) {
                x.setSize(0, size - 1);
                Due.is("fits: too large a costume " + size, x.canPlay(0, 0, 0), false);
            }
        }
    }

    /** Terms: "it could fit, if it was not let out yet, and its size is 1 less": 2 less could not. */
    private static void costumeCouldFitOneMore() {
        for (int size = 0; size < 9; size++) {
            CastDesk x = new CastDesk();
            Houses.fill(x, 0, 0);
            x.costume(0, size);
            x.setSize(0, size + 1);
            Due.is("could fit: 1 less " + size, x.canPlay(0, 0, 0), true);
            Due.is("could fit: with work " + size, x.work(0), 1);
            if (size < 8) {
                x.setSize(0, size + 2);
                Due.is("could fit: 2 less " + size, x.canPlay(0, 0, 0), false);
                Due.is("could fit: no cast by 2 less " + size, x.work(0), CastDesk.NONE);
            }
        }
    }

    /** Terms: sizes "0 to 9" of costumes and actors: a costume of 9 fits 9, one of 0 fits 0 or could fit 1. */
    private static void sizesAtTheEnds() {
        CastDesk x = new CastDesk();
        Houses.fill(x, 0, 0);
        x.costume(0, 9);
        for (int size = 0; size < 10; size++) {
            x.setSize(0, size);
            Due.is("ends: a costume of 9, an actor of " + size, x.canPlay(0, 0, 0), size == 9);
        }
        CastDesk y = new CastDesk();
        Houses.fill(y, 0, 0);
        y.costume(0, 0);
        for (int size = 0; size < 10; size++) {
            y.setSize(0, size);
            Due.is("ends: a costume of 0, an actor of " + size, y.canPlay(0, 0, 0), size <= 1);
        }
    }

    /** Terms: "a costume is for a part": not for the one ahead or behind. */
    private static void costumeForOnePart() {
        CastDesk x = new CastDesk();
        for (int part = 3; part < 6; part++) {
            Houses.fill(x, part, 0);
        }
        x.costume(4, 5);
        Due.is("for a part: ahead", x.canPlay(0, 3, 0), false);
        Due.is("for a part: its own", x.canPlay(0, 4, 0), true);
        Due.is("for a part: behind", x.canPlay(0, 5, 0), false);
        x.setSize(0, 6);
        Due.is("for a part: could fit ahead", x.canPlay(0, 3, 0), false);
        Due.is("for a part: could fit its own", x.canPlay(0, 4, 0), true);
        Due.is("for a part: could fit behind", x.canPlay(0, 5, 0), false);
    }

    /** Terms: "a size, which can be let out once, by 1, for good". */
    private static void letOutOnceForGood() {
        CastDesk x = new CastDesk();
        Houses.fill(x, 0, 0);
        x.costume(0, 8);
        x.setSize(0, 9);
        x.show(0);
        x.show(1);
        x.show(2);
        x.play();
        Due.is("let out: by 1", x.sizeOf(0), 9);
        x.play();
        Due.is("let out: fits from then on", x.stateOf(1), CastDesk.PLAYED);
        Due.is("let out: no second time", x.sizeOf(0), 9);
        x.setSize(0, 8);
        Due.is("let out: for good", x.canPlay(0, 0, 2), false);
        CastDesk y = new CastDesk();
        Houses.fill(y, 0, 0);
        y.costume(0, 3);
        y.setSize(0, 4);
        y.show(0);
        y.play();
        y.setSize(0, 5);
        Due.is("let out: once", y.canPlay(0, 0, 1), false);
        y.costume(0, 4);
        Due.is("let out: another of the same size", y.canPlay(0, 0, 1), true);
    }

    /** Terms: "Days are counted from 0." */
    private static void daysFrom0() {
        CastDesk x = new CastDesk();
        Due.is("days: the first", x.day(), 0);
        Due.is("days: a cold of the first", x.cold(0, 0, 0), 1);
        Due.is("days: a show of the first", x.show(0), 0);
        x.play();
        Due.is("days: the first was played", x.stateOf(0), CastDesk.CANCELLED);
        Due.is("days: the second", x.day(), 1);
    }

    /** Terms: "from one day to another one is ill on these days, both included": a day ahead, a day behind. */
    private static void coldBothDaysIncluded() {
        CastDesk x = new CastDesk();
        x.cold(6, 20, 22);
        boolean[] due = {false, true, true, true, false};
        for (int day = 19; day <= 23; day++) {
            Due.is("cold: day " + day, x.isIll(6, day), due[day - 19]);
        }
    }

    /** Terms: "several colds count together": side by side, over one another, apart. */
    private static void coldsCountTogether() {
        CastDesk x = new CastDesk();
        x.cold(6, 2, 3);
        Due.is("colds: side by side", x.cold(6, 4, 5), 2);
        Due.is("colds: over both", x.cold(6, 3, 4), 0);
        Due.is("colds: apart", x.cold(6, 7, 7), 1);
        Due.is("colds: over a gap", x.cold(6, 5, 8), 2);
        for (int day = 0; day < 11; day++) {
            Due.is("colds: day " + day, x.isIll(6, day), day >= 2 && day <= 8);
        }
    }

    /** Promise 1: "Makes a theatre with a play of one part, on the day 0." */
    private static void newTheatre() {
        CastDesk x = new CastDesk();
        Due.is("1: the day", x.day(), 0);
        Due.is("1: no takings", x.takings(), 0);
        Due.is("1: no cast", x.strain(0), CastDesk.NONE);
        Due.is("1: no cast by all", x.strainByAll(0), CastDesk.NONE);
        Due.is("1: no work", x.work(0), CastDesk.NONE);
        Due.is("1: no chain", x.chain(0, 0), CastDesk.NONE);
        Due.is("1: nobody is ill", x.isIll(11, 1000), false);
        Due.is("1: no show, nothing to refund", x.play(), 0);
        Due.is("1: one part", x.setParts(1), 1);
        CastDesk y = new CastDesk();
        Due.is("1: another object is another theatre", y.day(), 0);
    }

    /** Promise 2: "parts: 1 to 8" and "Returns of how many it was before." */
    private static void setPartsReturnsBefore() {
        CastDesk x = new CastDesk();
        Due.is("2: the least, which it is", x.setParts(1), 1);
        Due.is("2: the greatest", x.setParts(8), 1);
        Due.is("2: the greatest again", x.setParts(8), 8);
        Due.noArgument("2: one more", () -> x.setParts(9));
        Due.is("2: one less", x.setParts(7), 8);
        Due.is("2: the least", x.setParts(1), 7);
        Due.noArgument("2: none", () -> x.setParts(0));
        Due.is("2: still the least", x.setParts(2), 1);
    }

    /** Promise 3: "actor: 0 to 11", "size: 0 to 9" and "Returns the size before." */
    private static void setSizeReturnsBefore() {
        CastDesk x = new CastDesk();
        Due.is("3: actor 0 to 0", x.setSize(0, 0), 5);
        Due.is("3: actor 0 to 9", x.setSize(0, 9), 0);
        Due.noArgument("3: to 10", () -> x.setSize(0, 10));
        Due.is("3: actor 0 again", x.setSize(0, 5), 9);
        Due.is("3: actor 11 to 9", x.setSize(11, 9), 5);
        Due.is("3: actor 11 to 0", x.setSize(11, 0), 9);
        Due.noArgument("3: to -1", () -> x.setSize(11, -1));
        Due.is("3: actor 11 again", x.setSize(11, 5), 0);
    }

    /** Promise 4: "Returns how many parts the actor knows then.": from none to 4 and back. */
    private static void learnReturnsHowMany() {
        CastDesk x = new CastDesk();
        int[] parts = {0, 7, 3, 4};
        for (int place = 0; place < 4; place++) {
            Due.is("4: up to " + (place + 1), x.learn(11, parts[place], true), place + 1);
        }
        for (int place = 0; place < 4; place++) {
            Due.is("4: down to " + (3 - place), x.learn(11, parts[place], false), 3 - place);
        }
        Due.is("4: others know none", x.learn(10, 0, false), 0);
    }

    /** Promise 4: "if the actor would know more than 4": not if one of the four is learned again. */
    private static void learnAgainWithFour() {
        CastDesk x = new CastDesk();
        for (int part = 0; part < 4; part++) {
            x.learn(0, part, true);
        }
        for (int part = 0; part < 4; part++) {
            Due.is("4: again " + part, x.learn(0, part, true), 4);
        }
        for (int part = 4; part < 8; part++) {
            int more = part;
            Due.noState("4: one more " + part, () -> x.learn(0, more, true));
        }
    }

    /** Promise 4: "whether the actor knows it from now on": to forget what is not known changes nothing. */
    private static void forgetNothing() {
        CastDesk x = new CastDesk();
        for (int part = 0; part < 4; part++) {
            x.learn(0, part, true);
        }
        Due.is("4: forgets an unknown one with four", x.learn(0, 7, false), 4);
        x.learn(0, 0, false);
        Due.is("4: forgets the same once more", x.learn(0, 0, false), 3);
    }

    /** Promise 5: "Puts an actor at the end of the row of a part." and "Returns the rank.": 0 to 3. */
    private static void putReturnsTheRank() {
        CastDesk x = new CastDesk();
        int[] actors = {11, 0, 10, 1};
        for (int rank = 0; rank < 4; rank++) {
            Due.is("5: part 0, rank " + rank, x.put(0, actors[rank]), rank);
            Due.is("5: part 7, rank " + rank, x.put(7, actors[rank]), rank);
        }
    }

    /** Promise 6: "Returns the rank before.": 0 to 3, of a full row. */
    private static void takeReturnsTheRankBefore() {
        for (int rank = 0; rank < 4; rank++) {
            CastDesk x = Houses.play(Houses.row(8, 9, 10, 11));
            int actor = 8 + rank;
            Due.is("6: rank " + rank, x.take(0, actor), rank);
            Due.noState("6: a second time", () -> x.take(0, actor));
        }
    }

    /** Promise 6: "those behind move up": the first, one within, the last, the only one. */
    private static void takeMovesUp() {
        for (int taken = 0; taken < 4; taken++) {
            CastDesk x = Houses.play(Houses.row(0, 1, 2, 3));
            x.take(0, taken);
            for (int actor = 0; actor < 4; actor++) {
                if (actor != taken) {
                    Due.is("6: without " + taken + ", the first", x.actorFor(0, 0), actor);
                    Due.is("6: without " + taken + ", its rank", x.take(0, actor), 0);
                }
            }
            Due.is("6: an empty row", x.actorFor(0, 0), CastDesk.NONE);
            Due.is("6: the only one", x.put(0, 5), 0);
            Due.is("6: the only one is taken", x.take(0, 5), 0);
        }
    }

    /** Promise 5: "or it has 4", promise 6: "Takes an actor out": then there is room for one, and no more. */
    private static void takeMakesRoom() {
        CastDesk x = Houses.play(Houses.row(0, 1, 2, 3));
        x.take(0, 0);
        Due.is("5: room for the one taken", x.put(0, 0), 3);
        Due.noState("5: no more room", () -> x.put(0, 4));
        x.take(0, 3);
        Due.is("5: room for another one", x.put(0, 4), 3);
        Due.noState("5: not for the one taken", () -> x.put(0, 3));
        Due.is("5: the first one now", x.actorFor(0, 0), 1);
    }

    /** Promise 7: "part: 0 to 7", "size: 0 to 9" and "Returns its number." */
    private static void costumeReturnsItsNumber() {
        CastDesk x = new CastDesk();
        Due.is("7: the least", x.costume(0, 0), 0);
        Due.is("7: the greatest", x.costume(7, 9), 1);
        Due.noArgument("7: one more", () -> x.costume(7, 10));
        Due.noIndex("7: a part more", () -> x.costume(8, 9));
        Due.is("7: refused ones get no number", x.costume(0, 9), 2);
        Due.is("7: the same again is another one", x.costume(0, 9), 3);
    }

    /** Promise 8: "Returns 0 to 10.": of the first and the last of 40; none is let out to more than 9. */
    private static void sizeOfFirstAndLast() {
        CastDesk x = new CastDesk();
        Houses.fill(x, 0, 0);
        x.setSize(0, 9);
        x.costume(0, 8);
        for (int number = 1; number < 39; number++) {
            x.costume(7, 9);
        }
        x.costume(7, 0);
        Due.is("8: the first", x.sizeOf(0), 8);
        Due.is("8: the last", x.sizeOf(39), 0);
        x.show(0);
        x.play();
        Due.is("8: let out to 9", x.sizeOf(0), 9);
        Due.is("8: of another part", x.sizeOf(38), 9);
    }

    /** Promise 9: "from: the day of now to 1000": the day of now and the one before, as days pass. */
    private static void coldFromTheDayOfNow() {
        CastDesk x = new CastDesk();
        for (int day = 0; day < 5; day++) {
            int now = day;
            Due.noArgument("9: the day before now", () -> x.cold(0, now - 1, 1000));
            Due.is("9: the day of now", x.cold(0, now, now), 1);
            x.play();
        }
        Due.noArgument("9: yesterday", () -> x.cold(0, 4, 4));
        Due.is("9: the last day as the first", x.cold(0, 1000, 1000), 1);
        Due.noArgument("9: behind the last day", () -> x.cold(0, 1001, 1001));
    }

    /** Promise 9: "to: from to 1000". */
    private static void coldToTheLastDay() {
        CastDesk x = new CastDesk();
        Due.noArgument("9: to 1001", () -> x.cold(0, 0, 1001));
        Due.is("9: nothing came of it", x.isIll(0, 0) || x.isIll(0, 1000), false);
        Due.is("9: to 1000", x.cold(0, 0, 1000), 1001);
        Due.is("9: all days", x.isIll(0, 0) && x.isIll(0, 500) && x.isIll(0, 1000), true);
        Due.is("9: no day is left", x.cold(0, 0, 1000), 0);
        Due.is("9: another actor is well", x.cold(1, 0, 1000), 1001);
    }

    /** Promise 9: "to: from to 1000": the first day itself, and the day before it. */
    private static void coldOfOneDay() {
        CastDesk x = new CastDesk();
        Due.noArgument("9: to before from", () -> x.cold(0, 6, 5));
        Due.is("9: nothing came of it", x.isIll(0, 5) || x.isIll(0, 6), false);
        Due.is("9: one day", x.cold(0, 6, 6), 1);
        Due.is("9: the day ahead", x.isIll(0, 5), false);
        Due.is("9: the day", x.isIll(0, 6), true);
        Due.is("9: the day behind", x.isIll(0, 7), false);
    }

    /** Promise 9: "Returns on how many of these days the actor was not ill by other colds.": all, some, none. */
    private static void coldReturnsNewDays() {
        CastDesk x = new CastDesk();
        Due.is("9: all", x.cold(11, 10, 19), 10);
        Due.is("9: the last one is old", x.cold(11, 8, 10), 2);
        Due.is("9: the first one is old", x.cold(11, 19, 21), 2);
        Due.is("9: none", x.cold(11, 8, 21), 0);
        Due.is("9: around it", x.cold(11, 7, 22), 2);
        Due.is("9: of another actor", x.cold(10, 8, 21), 14);
    }

    /** Promise 10: "day: 0 to 1000". */
    private static void isIllFirstAndLastDay() {
        CastDesk x = new CastDesk();
        x.cold(0, 0, 0);
        x.cold(11, 1000, 1000);
        Due.is("10: the first day", x.isIll(0, 0), true);
        Due.is("10: the second day", x.isIll(0, 1), false);
        Due.is("10: the last day", x.isIll(11, 1000), true);
        Due.is("10: the last day but one", x.isIll(11, 999), false);
        Due.is("10: another actor, the last day", x.isIll(0, 1000), false);
        Due.is("10: another actor, the first day", x.isIll(11, 0), false);
        x.play();
        Due.is("10: a day that is over", x.isIll(0, 0), true);
    }

    /** Promise 11: "actor: 0 to 11", "part: 0 to 7", "day: 0 to 1000": the least and the greatest of each. */
    private static void canPlayFirstAndLast() {
        CastDesk x = new CastDesk();
        x.costume(0, 5);
        x.costume(7, 5);
        for (int part = 0; part < 8; part += 7) {
            Houses.fill(x, part, 0, 11);
        }
        for (int actor = 0; actor < 12; actor++) {
            boolean there = actor == 0 || actor == 11;
            Due.is("11: part 0, day 0, actor " + actor, x.canPlay(actor, 0, 0), there);
            Due.is("11: part 7, day 1000, actor " + actor, x.canPlay(actor, 7, 1000), there);
            Due.is("11: part 1, day 0, actor " + actor, x.canPlay(actor, 1, 0), false);
        }
        x.cold(11, 1000, 1000);
        Due.is("11: ill on the last day", x.canPlay(11, 7, 1000), false);
        Due.is("11: well on the last but one", x.canPlay(11, 7, 999), true);
    }

    /** Promise 11: "on a day, by what is so now": of a day that is over too. */
    private static void canPlayPastDays() {
        CastDesk x = Houses.play(Houses.row(0));
        x.cold(0, 0, 0);
        x.play();
        Due.is("11: ill on the day that is over", x.canPlay(0, 0, 0), false);
        Due.is("11: well now", x.canPlay(0, 0, 1), true);
        x.setSize(0, 9);
        Due.is("11: by the size of now", x.canPlay(0, 0, 1), false);
    }
}
