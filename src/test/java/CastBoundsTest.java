import java.util.function.IntUnaryOperator;

/**
 * The boundary cases of "Casts" in the document's Terms and of the promises 12 to 16, a method for each sentence.
 * What is refused on both sides of a range is in RefusedTest, with the look that nothing changed.
 */
public final class CastBoundsTest {
    public static void main(String[] args) {
        eachConditionOfCanPlay();
        ranksOfFourAlone();
        noCastForOnePartLess();
        allUnlike();
        allTwelve();
        leastAndGreatestStrain();
        leastAndGreatestWork();
        strainBeforeMuchWork();
        workBeforeRanks();
        rankInTheLowestPart();
        rankInTheLastTwoParts();
        rankNotNumber();
        daysOfStrain();
        daysOfStrainByAll();
        byAllTheLeastOfAll();
        daysOfWork();
        actorForEveryPart();
        actorForPartsOutside();
        actorForWithoutCast();
        pastDaysByWhatIsSoNow();
        chainOfNone();
        chainOfAll();
        chainOfWhoGivesWay();
        chainWithoutCast();
        chainOnFirstAndLastDay();
        chainOfWhoIsIll();
        chainOfFirstAndLastActor();
        Due.end("CastBoundsTest");
    }

    /** The strain by both searches, and the work; NONE for both if there is no cast. */
    private static void best(String what, CastDesk x, int day, int strain, int work) {
        Due.is(what + ": strain", x.strain(day), strain);
        Due.is(what + ": strain by all", x.strainByAll(day), strain);
        Due.is(what + ": work", x.work(day), work);
    }

    private static void noCast(String what, CastDesk x, int day) {
        best(what, x, day, CastDesk.NONE, CastDesk.NONE);
        for (int part = 0; part < 8; part++) {
            Due.is(what + ": nobody plays " + part, x.actorFor(day, part), CastDesk.NONE);
        }
    }

    private static void actors(String what, CastDesk x, int day, int... due) {
        for (int part = 0; part < 8; part++) {
            Due.is(what + ": part " + part, x.actorFor(day, part), part < due.length ? due[part] : CastDesk.NONE);
        }
    }

    /** Eight parts; the actor p is the one of the part p who knows it, behind so many others who do not. */
    private static CastDesk eightParts(int others) {
        CastDesk x = new CastDesk();
        x.setParts(8);
        for (int part = 0; part < 8; part++) {
            for (int other = 0; other < others; other++) {
                x.put(part, 8 + other);
            }
            Houses.fill(x, part, part);
            x.costume(part, 5);
        }
        return x;
    }

    /**
     * Casts: "An actor can play a part on a day, if the actor is in its row, knows it, is not ill on the day, and
     * some costume for the part fits, or could fit.": each of these alone is missing.
     */
    private static void eachConditionOfCanPlay() {
        for (int missing = 0; missing <= 4; missing++) {
            CastDesk x = new CastDesk();
            if (missing != 0) {
                x.put(0, 0);
            }
            if (missing != 1) {
                x.learn(0, 0, true);
            }
            if (missing != 2) {
                x.costume(0, 5);
            }
            if (missing == 3) {
                x.cold(0, 0, 0);
            }
            Due.is("can play: without " + missing, x.canPlay(0, 0, 0), missing == 4);
            best("can play: cast without " + missing, x, 0, missing == 4 ? 0 : -1, missing == 4 ? 0 : -1);
        }
    }

    /** Casts: "if the actor is in its row": of the rank 3 too; and not any more when taken out of it. */
    private static void ranksOfFourAlone() {
        CastDesk x = Houses.play(Houses.row(8, 9, 10, 11));
        for (int actor = 8; actor < 12; actor++) {
            Due.is("in the row: " + actor, x.canPlay(actor, 0, 0), true);
            x.cold(actor, actor - 7, 1000);
        }
        Due.is("in the row: rank 3 alone", x.actorFor(3, 0), 11);
        noCast("in the row: nobody", x, 4);
        x.take(0, 11);
        Due.is("in the row: not any more", x.canPlay(11, 0, 3), false);
        noCast("in the row: taken", x, 3);
    }

    /** Casts: "A cast for a day has for each part of the play an actor who can play it": one part without one. */
    private static void noCastForOnePartLess() {
        for (int missing = 0; missing < 8; missing++) {
            CastDesk x = eightParts(0);
            x.learn(missing, missing, false);
            noCast("each part: without " + missing, x, 0);
            x.learn(missing, missing, true);
            best("each part: all", x, 0, 0, 0);
            x.cold(missing, 5, 5);
            best("each part: the day ahead of " + missing, x, 4, 0, 0);
            noCast("each part: ill " + missing, x, 5);
            best("each part: the day behind " + missing, x, 6, 0, 0);
        }
    }

    /** Casts: "all of them unlike": as many bodies as parts, and one less. */
    private static void allUnlike() {
        int[] row = {0, 1, 2, 3};
        CastDesk x = Houses.play(row, row, row, row);
        best("unlike: four bodies for four parts", x, 0, 6, 0);
        actors("unlike: four bodies", x, 0, 0, 1, 2, 3);
        x.cold(2, 1, 1);
        noCast("unlike: three bodies for four parts", x, 1);
        x.setParts(3);
        best("unlike: three bodies for three parts", x, 1, 0 + 1 + 3, 0);
        actors("unlike: three bodies", x, 1, 0, 1, 3);
        x.cold(0, 1, 1);
        noCast("unlike: two bodies for three parts", x, 1);
    }

    /** Casts: "for each part of the play an actor": eight parts, to be played by the last eight of twelve. */
    private static void allTwelve() {
        CastDesk x = new CastDesk();
        x.setParts(8);
        for (int part = 0; part < 8; part++) {
            Houses.fill(x, part, part % 4, part + 4);
            x.costume(part, 5);
        }
        best("twelve: four first actors play", x, 0, 4, 0);
        actors("twelve: the lower parts keep them", x, 0, 0, 1, 2, 3, 8, 9, 10, 11);
        for (int actor = 0; actor < 4; actor++) {
            x.cold(actor, 1, 1);
        }
        best("twelve: no first actor plays", x, 1, 8, 0);
        actors("twelve: the last eight", x, 1, 4, 5, 6, 7, 8, 9, 10, 11);
        x.cold(11, 1, 1);
        noCast("twelve: the last one is ill", x, 1);
    }

    /** Casts: "Its strain is the sum of the ranks of all": 0 is the least, 8 times 3 the greatest. */
    private static void leastAndGreatestStrain() {
        for (int rank = 0; rank < 4; rank++) {
            CastDesk x = eightParts(rank);
            best("strain: eight of rank " + rank, x, 0, 8 * rank, 0);
            actors("strain: eight of rank " + rank, x, 0, 0, 1, 2, 3, 4, 5, 6, 7);
            x.setParts(1);
            best("strain: one of rank " + rank, x, 0, rank, 0);
        }
    }

    /** Casts: "its work how many parts are played by actors whom no costume for the part fits": 0 to 8. */
    private static void leastAndGreatestWork() {
        CastDesk x = eightParts(3);
        for (int actor = 0; actor < 8; actor++) {
            best("work: so many are larger", x, 0, 24, actor);
            x.setSize(actor, 6);
        }
        best("work: the greatest, with the greatest strain", x, 0, 24, 8);
        x.costume(7, 6);
        best("work: one less", x, 0, 24, 7);
        x.setSize(0, 7);
        noCast("work: one too large", x, 0);
    }

    /** Casts: "The best cast is the one with the least strain": one less strain goes before eight times the work. */
    private static void strainBeforeMuchWork() {
        CastDesk x = eightParts(0);
        for (int actor = 0; actor < 8; actor++) {
            x.setSize(actor, 6);
        }
        Houses.fill(x, 7, 11);
        best("strain first: eight times the work", x, 0, 0, 8);
        Due.is("strain first: the first actor", x.actorFor(0, 7), 7);
        x.cold(7, 0, 0);
        best("strain first: one steps in", x, 0, 1, 7);
        Due.is("strain first: who steps in", x.actorFor(0, 7), 11);
    }

    /** Casts: "of several the one with the least work": one less work goes before a lesser rank in the part 0. */
    private static void workBeforeRanks() {
        int[] row = {0, 1};
        CastDesk x = Houses.play(row, row);
        actors("work first: none either way", x, 0, 0, 1);
        x.costume(0, 6);
        x.costume(1, 4);
        x.setSize(1, 6);
        best("work first: one of them saves it", x, 0, 1, 0);
        actors("work first: one of them saves it", x, 0, 1, 0);
        x.costume(1, 6);
        best("work first: none either way again", x, 0, 1, 0);
        actors("work first: none either way again", x, 0, 0, 1);
    }

    /** Casts: "of several the one with the lesser rank in the lowest part in which they differ": part 0 and part 7. */
    private static void rankInTheLowestPart() {
        CastDesk x = eightParts(0);
        for (int part = 0; part < 8; part += 7) {
            x.take(part, part);
            Houses.fill(x, part, 10, 11);
        }
        best("lowest part: one of two steps in", x, 0, 1, 0);
        actors("lowest part: the part 0 keeps the first", x, 0, 10, 1, 2, 3, 4, 5, 6, 11);
    }

    /** Casts: "the lesser rank in the lowest part in which they differ": the last two parts, by the greatest ranks. */
    private static void rankInTheLastTwoParts() {
        CastDesk x = eightParts(2);
        for (int part = 6; part < 8; part++) {
            x.take(part, part);
            Houses.fill(x, part, 6, 7);
        }
        best("last two parts: ranks 2 and 3", x, 0, 8 * 2 + 1, 0);
        actors("last two parts: the lower one has 2", x, 0, 0, 1, 2, 3, 4, 5, 6, 7);
        x.setSize(6, 6);
        x.costume(7, 6);
        best("last two parts: less work", x, 0, 8 * 2 + 1, 0);
        actors("last two parts: the lower one has 3", x, 0, 0, 1, 2, 3, 4, 5, 7, 6);
    }

    /** Casts: "the lesser rank", not the lesser actor. */
    private static void rankNotNumber() {
        int[] row = {11, 0};
        CastDesk x = Houses.play(row, row);
        actors("rank: 11 is ahead of 0", x, 0, 11, 0);
    }

    /** Two for one part, the second one of whom needs work; the first one is ill on the first and the last day. */
    private static CastDesk illAtTheEnds() {
        CastDesk x = Houses.play(Houses.row(0, 1));
        x.setSize(1, 6);
        x.cold(0, 0, 0);
        x.cold(0, 1000, 1000);
        return x;
    }

    private static void ends(String what, IntUnaryOperator question, int first, int last) {
        Due.is(what + ": the first day", question.applyAsInt(0), first);
        Due.is(what + ": the second day", question.applyAsInt(1), 0);
        Due.is(what + ": the last day but one", question.applyAsInt(999), 0);
        Due.is(what + ": the last day", question.applyAsInt(1000), last);
    }

    /** Promise 12: "day: 0 to 1000", "Returns the strain; NONE if there is no cast." */
    private static void daysOfStrain() {
        CastDesk x = illAtTheEnds();
        ends("12", x::strain, 1, 1);
        x.cold(1, 1000, 1000);
        ends("12: none on the last day", x::strain, 1, CastDesk.NONE);
    }

    /** Promise 13: "Returns the same": "day: 0 to 1000", NONE if there is no cast. */
    private static void daysOfStrainByAll() {
        CastDesk x = illAtTheEnds();
        ends("13", x::strainByAll, 1, 1);
        x.cold(1, 0, 0);
        ends("13: none on the first day", x::strainByAll, CastDesk.NONE, 1);
    }

    /** Promise 13: "the same, found by trying all casts": the least comes first, last or between. */
    private static void byAllTheLeastOfAll() {
        CastDesk x = Houses.play(Houses.row(0, 1), Houses.row(1, 2, 3));
        x.learn(2, 1, false);
        best("by all: 0 first, then 3", x, 0, 0, 0);
        CastDesk y = Houses.play(Houses.row(0, 1), Houses.row(0, 2, 3));
        y.learn(2, 1, false);
        best("by all: 2 first, then 1", y, 0, 1, 0);
        CastDesk z = Houses.play(Houses.row(0, 1, 2), Houses.row(0, 4, 3, 2));
        z.learn(4, 1, false);
        best("by all: 2, then 1, then 2", z, 0, 1, 0);
    }

    /** Promise 14: "day: 0 to 1000", "Returns the work; NONE if there is no cast." */
    private static void daysOfWork() {
        CastDesk x = illAtTheEnds();
        ends("14", x::work, 1, 1);
        x.setSize(1, 7);
        ends("14: none on both", x::work, CastDesk.NONE, CastDesk.NONE);
    }

    /** Promise 15: "day: 0 to 1000", "part: 0 to 7", "Returns the actor": the actors 0 and 11 are actors too. */
    private static void actorForEveryPart() {
        CastDesk x = eightParts(0);
        x.take(7, 7);
        Houses.fill(x, 7, 11);
        for (int day : new int[] {0, 1000}) {
            actors("15: day " + day, x, day, 0, 1, 2, 3, 4, 5, 6, 11);
        }
    }

    /** Promise 15: "NONE if .. the play does not have the part": the last one it has, the next, the part 7. */
    private static void actorForPartsOutside() {
        CastDesk x = eightParts(0);
        for (int parts = 1; parts < 8; parts++) {
            x.setParts(parts);
            Due.is("15: the last part", x.actorFor(0, parts - 1), parts - 1);
            Due.is("15: the next part", x.actorFor(0, parts), CastDesk.NONE);
            Due.is("15: the part 7", x.actorFor(0, 7), CastDesk.NONE);
        }
        x.setParts(8);
        Due.is("15: the part 7 of eight", x.actorFor(0, 7), 7);
    }

    /** Promise 15: "NONE if there is no cast": for those parts too that someone could play. */
    private static void actorForWithoutCast() {
        CastDesk x = eightParts(0);
        x.cold(7, 3, 3);
        Due.is("15: someone could", x.canPlay(0, 0, 3), true);
        noCast("15: no cast", x, 3);
    }

    /** Promises 12 to 15: "for a day, by what is so now": of a day that is over too. */
    private static void pastDaysByWhatIsSoNow() {
        CastDesk x = Houses.play(Houses.row(0, 1));
        x.show(0);
        x.play();
        x.setSize(0, 6);
        best("past days: by the size of now", x, 0, 0, 1);
        x.learn(0, 0, false);
        best("past days: by what is known now", x, 0, 1, 0);
        Due.is("past days: who would play", x.actorFor(0, 0), 1);
        Due.is("past days: who played", x.played(0, 0), 0);
    }

    /** Promise 16: "how many parts would be played by other actors": none, if the actor does not play. */
    private static void chainOfNone() {
        CastDesk x = Houses.play(Houses.row(0, 1));
        Due.is("16: an understudy", x.chain(1, 0), 0);
        Due.is("16: one in no row", x.chain(11, 0), 0);
        Due.is("16: the one who plays", x.chain(0, 0), 1);
    }

    /** Promise 16: "how many parts would be played by other actors": all eight, by a chain from the first on. */
    private static void chainOfAll() {
        CastDesk x = new CastDesk();
        x.setParts(8);
        for (int part = 0; part < 8; part++) {
            Houses.fill(x, part, part, part + 1);
            x.costume(part, 5);
        }
        for (int actor = 0; actor < 8; actor++) {
            Due.is("16: a chain from " + actor, x.chain(actor, 0), 8 - actor);
        }
        Due.is("16: the end of the chain", x.chain(8, 0), 0);
        for (int parts = 1; parts < 8; parts++) {
            x.setParts(parts);
            Due.is("16: of " + parts + " parts", x.chain(0, 0), parts);
        }
    }

    /** Promise 16: "by other actors than in the best cast": who moves from one part to another counts in both. */
    private static void chainOfWhoGivesWay() {
        CastDesk x = Houses.play(Houses.row(0, 1), Houses.row(2), Houses.row(1, 3));
        Due.is("16: the part between stays", x.chain(0, 0), 2);
        Due.is("16: nobody for the part between", x.chain(2, 0), CastDesk.NONE);
        CastDesk y = Houses.play(Houses.row(0, 1), Houses.row(1, 2));
        y.cold(0, 0, 0);
        Due.is("16: than in the best cast of the day", y.actorFor(0, 0), 1);
        Due.is("16: no cast without 1", y.chain(1, 0), CastDesk.NONE);
        Due.is("16: a day later there is one", y.chain(1, 1), 1);
    }

    /** Promise 16: "NONE if there is no cast, with the cold or without it." */
    private static void chainWithoutCast() {
        CastDesk x = Houses.play(Houses.row(0), Houses.row(1, 2));
        Due.is("16: with the cold of the only one", x.chain(0, 0), CastDesk.NONE);
        Due.is("16: with the cold of one of two", x.chain(1, 0), 1);
        x.cold(0, 0, 0);
        for (int actor = 0; actor < 12; actor++) {
            Due.is("16: without a cold, " + actor, x.chain(actor, 0), CastDesk.NONE);
        }
        CastDesk y = new CastDesk();
        Due.is("16: of a new theatre", y.chain(0, 0), CastDesk.NONE);
    }

    /** Promise 16: "day: 0 to 1000". */
    private static void chainOnFirstAndLastDay() {
        CastDesk x = Houses.play(Houses.row(0, 1), Houses.row(1, 2));
        x.cold(2, 1000, 1000);
        Due.is("16: the first day", x.chain(0, 0), 2);
        Due.is("16: the last day but one", x.chain(0, 999), 2);
        Due.is("16: the last day", x.chain(0, 1000), CastDesk.NONE);
        Due.is("16: the last day, of nobody in the play", x.chain(3, 1000), 0);
    }

    /** Promise 16: "a cold of an actor on a day": one who is ill then is ill with it and without it. */
    private static void chainOfWhoIsIll() {
        CastDesk x = Houses.play(Houses.row(0, 1));
        x.cold(0, 4, 4);
        Due.is("16: ill already", x.chain(0, 4), 0);
        Due.is("16: well on the day ahead", x.chain(0, 3), 1);
        Due.is("16: well on the day behind", x.chain(0, 5), 1);
        Due.is("16: the cold asked of is not told", x.isIll(0, 3) || x.isIll(0, 5), false);
    }

    /** Promise 16: "actor: 0 to 11". */
    private static void chainOfFirstAndLastActor() {
        CastDesk x = Houses.play(Houses.row(11, 3), Houses.row(0, 11));
        Due.is("16: the actor 11", x.chain(11, 0), 1);
        Due.is("16: the actor 0, for whom 11 steps in and 3 for that one", x.chain(0, 0), 2);
        x.cold(3, 0, 0);
        Due.is("16: the actor 0 without 3", x.chain(0, 0), CastDesk.NONE);
    }
}
