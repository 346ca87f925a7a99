/** The promises 12 to 16: the best cast of a day, and the chains that colds set off. */
public final class CastsTest {
    public static void main(String[] args) {
        plain();
        leastStrain();
        workBreaksTies();
        strainComesBeforeWork();
        ranksBreakTies();
        allUnlike();
        fullHouse();
        noActorKnows();
        partsOfThePlay();
        chain();
        chainOfThree();
        wrongInputs();
        questionsChangeNothing();
        Due.end("CastsTest");
    }

    private static void cast(String what, CastDesk x, int day, int strain, int work, int... actors) {
        Due.is(what + ": strain", x.strain(day), strain);
        Due.is(what + ": strainByAll", x.strainByAll(day), strain);
        Due.is(what + ": work", x.work(day), work);
        for (int part = 0; part < 8; part++) {
            Due.is(what + ": part " + part, x.actorFor(day, part), part < actors.length ? actors[part] : CastDesk.NONE);
        }
    }

    private static void plain() {
        CastDesk x = new CastDesk();
        cast("nobody", x, 0, CastDesk.NONE, CastDesk.NONE);
        x = Houses.play(Houses.row(3, 4), Houses.row(4, 5));
        cast("first actors", x, 0, 0, 0, 3, 4);
        x.cold(3, 1, 1);
        cast("both step in", x, 1, 2, 0, 4, 5);
        cast("the day before", x, 0, 0, 0, 3, 4);
        cast("the day after", x, 2, 0, 0, 3, 4);
        x.cold(4, 2, 2);
        cast("one steps in", x, 2, 1, 0, 3, 5);
        x.cold(5, 1, 1);
        cast("nobody left", x, 1, CastDesk.NONE, CastDesk.NONE);
        cast("the last day", x, 1000, 0, 0, 3, 4);
    }

    private static void leastStrain() {
        CastDesk x = Houses.play(Houses.row(0, 1, 2, 3), Houses.row(0, 4), Houses.row(1, 5));
        cast("one of the first two parts steps in", x, 0, 1, 0, 0, 4, 1);
        x.cold(4, 0, 0);
        cast("the first part gives way", x, 0, 2, 0, 1, 0, 5);
        x.cold(5, 0, 0);
        cast("two ranks in one part", x, 0, 2, 0, 2, 0, 1);
    }

    private static void workBreaksTies() {
        CastDesk x = Houses.play(Houses.row(0, 1), Houses.row(0, 1));
        cast("the lesser rank comes first", x, 0, 1, 0, 0, 1);
        x.setSize(1, 6);
        cast("one dress is let out either way", x, 0, 1, 1, 0, 1);
        x.costume(0, 6);
        cast("less work with the higher rank", x, 0, 1, 0, 1, 0);
        x.costume(1, 6);
        cast("no work either way", x, 0, 1, 0, 0, 1);
    }

    private static void strainComesBeforeWork() {
        CastDesk x = Houses.play(Houses.row(0, 2), Houses.row(1, 3));
        x.setSize(0, 6);
        x.setSize(1, 6);
        cast("much work, no strain", x, 0, 0, 2, 0, 1);
        x.setSize(0, 4);
        cast("too small", x, 0, 1, 1, 2, 1);
        x.setSize(1, 7);
        cast("too large", x, 0, 2, 0, 2, 3);
    }

    private static void ranksBreakTies() {
        CastDesk x = Houses.play(Houses.row(0, 1, 2), Houses.row(0, 1, 2), Houses.row(0, 1, 2));
        cast("rising ranks", x, 0, 3, 0, 0, 1, 2);
        CastDesk y = Houses.play(Houses.row(0, 1), Houses.row(2), Houses.row(0, 3), Houses.row(1, 4));
        cast("the lowest part keeps its first actor", y, 0, 1, 0, 0, 2, 3, 1);
        CastDesk z = Houses.play(Houses.row(11, 3, 0), Houses.row(11, 0, 3));
        cast("by ranks, not by numbers of actors", z, 0, 1, 0, 11, 0);
    }

    private static void allUnlike() {
        CastDesk x = Houses.play(Houses.row(7), Houses.row(7));
        cast("one body for two parts", x, 0, CastDesk.NONE, CastDesk.NONE);
        x.setParts(1);
        cast("one part", x, 0, 0, 0, 7);
        CastDesk y = Houses.play(Houses.row(0, 1), Houses.row(0, 1), Houses.row(0, 1));
        cast("two bodies for three parts", y, 0, CastDesk.NONE, CastDesk.NONE);
    }

    /** Four actors of twelve for each of eight parts: each actor knows as many parts as can be. */
    private static void fullHouse() {
        CastDesk x = Houses.play(Houses.row(0, 1, 2, 3), Houses.row(0, 1, 2, 3),
                Houses.row(0, 1, 2, 3), Houses.row(0, 1, 2, 3),
                Houses.row(4, 5, 6, 7), Houses.row(4, 5, 6, 7), Houses.row(8, 9, 10, 11), Houses.row(8, 9, 10, 11));
        cast("full house", x, 0, 8, 0, 0, 1, 2, 3, 4, 5, 8, 9);
        Due.is("16: the last two of eight parts", x.chain(8, 0), 2);
        x.cold(8, 0, 0);
        x.cold(4, 0, 0);
        x.cold(6, 0, 0);
        cast("three are ill", x, 0, 6 + 4 + 3, 0, 0, 1, 2, 3, 5, 7, 9, 10);
        x.cold(0, 0, 0);
        cast("four parts for three bodies", x, 0, CastDesk.NONE, CastDesk.NONE);
        CastDesk y = Houses.play(Houses.row(0, 1, 2, 11), Houses.row(1, 2, 0, 10),
                Houses.row(2, 3, 4, 9), Houses.row(3, 4, 5, 8),
                Houses.row(4, 5, 6, 7), Houses.row(5, 6, 7, 3), Houses.row(6, 7, 8, 9), Houses.row(7, 8, 9, 10));
        cast("all first actors", y, 0, 0, 0, 0, 1, 2, 3, 4, 5, 6, 7);
        for (int part = 0; part < 8; part++) {
            y.setSize(part, 6);
        }
        cast("work in all parts", y, 0, 0, 8, 0, 1, 2, 3, 4, 5, 6, 7);
    }

    private static void noActorKnows() {
        CastDesk x = Houses.play(Houses.row(0, 1));
        x.learn(0, 0, false);
        cast("the first actor forgot it", x, 0, 1, 0, 1);
        x.take(0, 0);
        cast("the ranks move up", x, 0, 0, 0, 1);
        x.take(0, 1);
        cast("an empty row", x, 0, CastDesk.NONE, CastDesk.NONE);
    }

    private static void partsOfThePlay() {
        CastDesk x = Houses.play(Houses.row(0, 1), Houses.row(0));
        cast("two parts", x, 0, 1, 0, 1, 0);
        x.setParts(1);
        cast("one part", x, 0, 0, 0, 0);
        x.setParts(3);
        cast("three parts", x, 0, CastDesk.NONE, CastDesk.NONE);
    }

    private static void chain() {
        CastDesk x = Houses.play(Houses.row(0, 1), Houses.row(1, 2));
        Due.is("16: a chain of two", x.chain(0, 0), 2);
        Due.is("16: one steps in", x.chain(1, 0), 1);
        Due.is("16: an understudy", x.chain(2, 0), 0);
        Due.is("16: outside the play", x.chain(11, 0), 0);
        x.cold(0, 4, 4);
        Due.is("16: ill already", x.chain(0, 4), 0);
        Due.is("16: no cast with it", x.chain(1, 4), CastDesk.NONE);
        x.cold(2, 4, 4);
        Due.is("16: no cast without it", x.chain(11, 4), CastDesk.NONE);
        Due.is("16: the cold is not told", x.isIll(0, 0), false);
        cast("after the chains", x, 0, 0, 0, 0, 1);
    }

    private static void chainOfThree() {
        CastDesk x = Houses.play(Houses.row(0, 1), Houses.row(1, 2), Houses.row(2, 3), Houses.row(4, 5));
        Due.is("16: a chain of three", x.chain(0, 7), 3);
        Due.is("16: a chain of two behind it", x.chain(1, 7), 2);
        Due.is("16: apart from it", x.chain(4, 7), 1);
        x.setParts(2);
        Due.is("16: parts of the play alone", x.chain(0, 7), 2);
    }

    private static void wrongInputs() {
        CastDesk x = Houses.play(Houses.row(0));
        Due.noArgument("12: day -1", () -> x.strain(-1));
        Due.noArgument("12: day 1001", () -> x.strain(1001));
        Due.noArgument("13: day -1", () -> x.strainByAll(-1));
        Due.noArgument("13: day 1001", () -> x.strainByAll(1001));
        Due.noArgument("14: day -1", () -> x.work(-1));
        Due.noArgument("14: day 1001", () -> x.work(1001));
        Due.noArgument("15: day -1", () -> x.actorFor(-1, 0));
        Due.noArgument("15: day 1001", () -> x.actorFor(1001, 0));
        Due.noIndex("15: part -1", () -> x.actorFor(0, -1));
        Due.noIndex("15: part 8", () -> x.actorFor(0, 8));
        Due.noIndex("15: both wrong", () -> x.actorFor(1001, 8));
        Due.noArgument("16: day -1", () -> x.chain(0, -1));
        Due.noArgument("16: day 1001", () -> x.chain(0, 1001));
        Due.noIndex("16: actor -1", () -> x.chain(-1, 0));
        Due.noIndex("16: actor 12", () -> x.chain(12, 0));
        Due.noIndex("16: both wrong", () -> x.chain(12, 1001));
        cast("after wrong calls", x, 0, 0, 0, 0);
    }

    private static void questionsChangeNothing() {
        CastDesk x = Houses.play(Houses.row(0, 1), Houses.row(1, 2));
        x.setSize(0, 6);
        for (int time = 0; time < 3; time++) {
            cast("asked again", x, 0, 0, 1, 0, 1);
            Due.is("16: asked again", x.chain(0, 0), 2);
            Due.is("8: no dress is let out", x.sizeOf(0), 5);
        }
        Due.is("11: nor later", x.canPlay(0, 0, 0), true);
    }
}
