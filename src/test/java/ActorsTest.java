/** The promises 1 to 11: a new object, actors, parts, rows, costumes and colds. */
public final class ActorsTest {
    public static void main(String[] args) {
        newObject();
        setParts();
        setSize();
        learn();
        put();
        take();
        costume();
        cold();
        isIll();
        canPlay();
        canPlayByCostume();
        Due.end("ActorsTest");
    }

    private static void newObject() {
        CastDesk x = new CastDesk();
        Due.is("1: day", x.day(), 0);
        Due.is("1: takings", x.takings(), 0);
        Due.is("1: parts", x.setParts(1), 1);
        for (int actor = 0; actor < 12; actor++) {
            Due.is("1: ill " + actor, x.isIll(actor, 0), false);
            Due.is("1: size " + actor, x.setSize(actor, 5), 5);
            Due.is("1: knows none " + actor, x.learn(actor, 0, false), 0);
            Due.is("1: can play " + actor, x.canPlay(actor, 0, 0), false);
        }
        for (int part = 0; part < 8; part++) {
            Due.is("1: row of " + part, x.put(part, 11), 0);
            Due.is("1: actor for " + part, x.actorFor(0, part), CastDesk.NONE);
        }
        Due.is("1: strain", x.strain(0), CastDesk.NONE);
        Due.noIndex("1: no costume", () -> x.sizeOf(0));
        Due.noIndex("1: no show", () -> x.stateOf(0));
        Due.noIndex("1: no seat", () -> x.refund(0));
    }

    private static void setParts() {
        CastDesk x = new CastDesk();
        Due.is("2: to 8", x.setParts(8), 1);
        Due.noArgument("2: 0", () -> x.setParts(0));
        Due.noArgument("2: 9", () -> x.setParts(9));
        Due.noArgument("2: -1", () -> x.setParts(-1));
        Due.noArgument("2: least", () -> x.setParts(Integer.MIN_VALUE));
        Due.noArgument("2: greatest", () -> x.setParts(Integer.MAX_VALUE));
        Due.is("2: to 1", x.setParts(1), 8);
        Due.is("2: the same", x.setParts(1), 1);
        x.put(3, 7);
        x.setParts(2);
        Due.is("2: rows stay", x.take(3, 7), 0);
    }

    private static void setSize() {
        CastDesk x = new CastDesk();
        Due.is("3: first", x.setSize(11, 9), 5);
        Due.noIndex("3: actor 12", () -> x.setSize(12, 0));
        Due.noIndex("3: actor -1", () -> x.setSize(-1, 0));
        Due.noIndex("3: both wrong", () -> x.setSize(12, 10));
        Due.noArgument("3: size 10", () -> x.setSize(11, 10));
        Due.noArgument("3: size -1", () -> x.setSize(11, -1));
        Due.is("3: second", x.setSize(11, 0), 9);
        Due.is("3: another actor", x.setSize(10, 0), 5);
    }

    private static void learn() {
        CastDesk x = new CastDesk();
        Due.is("4: first", x.learn(0, 7, true), 1);
        Due.is("4: again", x.learn(0, 7, true), 1);
        Due.is("4: second", x.learn(0, 1, true), 2);
        Due.is("4: third", x.learn(0, 2, true), 3);
        Due.is("4: fourth", x.learn(0, 3, true), 4);
        Due.noState("4: fifth", () -> x.learn(0, 4, true));
        Due.is("4: a known one of four", x.learn(0, 3, true), 4);
        Due.is("4: forgets an unknown one", x.learn(0, 4, false), 4);
        Due.is("4: forgets", x.learn(0, 3, false), 3);
        Due.is("4: another fourth", x.learn(0, 4, true), 4);
        Due.is("4: another actor", x.learn(1, 4, true), 1);
        Due.noIndex("4: actor 12", () -> x.learn(12, 0, true));
        Due.noIndex("4: actor -1", () -> x.learn(-1, 0, true));
        Due.noIndex("4: part 8", () -> x.learn(0, 8, true));
        Due.noIndex("4: part -1", () -> x.learn(0, -1, false));
        Due.is("4: after wrong calls", x.learn(0, 7, false), 3);
    }

    private static void put() {
        CastDesk x = new CastDesk();
        Due.is("5: first", x.put(7, 11), 0);
        Due.is("5: second", x.put(7, 0), 1);
        Due.noState("5: again", () -> x.put(7, 11));
        Due.is("5: third", x.put(7, 1), 2);
        Due.is("5: fourth", x.put(7, 2), 3);
        Due.noState("5: fifth", () -> x.put(7, 3));
        Due.noState("5: again in a full row", () -> x.put(7, 2));
        Due.noIndex("5: part 8", () -> x.put(8, 0));
        Due.noIndex("5: part -1", () -> x.put(-1, 0));
        Due.noIndex("5: actor 12", () -> x.put(7, 12));
        Due.noIndex("5: actor -1", () -> x.put(7, -1));
        Due.is("5: another part", x.put(6, 11), 0);
        Due.is("5: unchanged", x.take(7, 2), 3);
    }

    private static void take() {
        CastDesk x = new CastDesk();
        Due.noState("6: empty", () -> x.take(0, 0));
        for (int actor = 0; actor < 4; actor++) {
            x.put(0, actor);
        }
        Due.is("6: from the middle", x.take(0, 1), 1);
        Due.noState("6: again", () -> x.take(0, 1));
        Due.is("6: to the end", x.put(0, 1), 3);
        Due.is("6: moved up", x.take(0, 2), 1);
        Due.is("6: the first", x.take(0, 0), 0);
        Due.noIndex("6: part 8", () -> x.take(8, 3));
        Due.noIndex("6: part -1", () -> x.take(-1, 3));
        Due.noIndex("6: actor 12", () -> x.take(0, 12));
        Due.noIndex("6: actor -1", () -> x.take(0, -1));
        Due.noState("6: in another row", () -> x.take(1, 3));
        Due.is("6: the next first", x.take(0, 3), 0);
        Due.is("6: the last one", x.take(0, 1), 0);
    }

    private static void costume() {
        CastDesk x = new CastDesk();
        Due.is("7: first", x.costume(7, 0), 0);
        Due.noIndex("7: part 8", () -> x.costume(8, 0));
        Due.noIndex("7: part -1", () -> x.costume(-1, 0));
        Due.noIndex("7: both wrong", () -> x.costume(8, 10));
        Due.noArgument("7: size 10", () -> x.costume(0, 10));
        Due.noArgument("7: size -1", () -> x.costume(0, -1));
        for (int number = 1; number < 40; number++) {
            Due.is("7: number", x.costume(number % 8, number % 10), number);
        }
        Due.noState("7: the 41st", () -> x.costume(0, 0));
        Due.noArgument("7: the 41st, wrong size", () -> x.costume(0, 10));
        Due.noIndex("7: the 41st, wrong part", () -> x.costume(8, 0));
        for (int number = 0; number < 40; number++) {
            Due.is("8: size of " + number, x.sizeOf(number), number % 10);
        }
        Due.noIndex("8: 40", () -> x.sizeOf(40));
        Due.noIndex("8: -1", () -> x.sizeOf(-1));
        Due.noIndex("8: least", () -> x.sizeOf(Integer.MIN_VALUE));
    }

    private static void cold() {
        CastDesk x = new CastDesk();
        Due.is("9: first", x.cold(0, 2, 4), 3);
        Due.is("9: over it", x.cold(0, 1, 5), 2);
        Due.is("9: within", x.cold(0, 2, 4), 0);
        Due.is("9: another actor", x.cold(11, 3, 3), 1);
        Due.is("9: to the end", x.cold(0, 0, 1000), 996);
        Due.is("9: the last day", x.cold(11, 1000, 1000), 1);
        Due.noIndex("9: actor 12", () -> x.cold(12, 0, 0));
        Due.noIndex("9: actor -1", () -> x.cold(-1, 0, 0));
        Due.noIndex("9: both wrong", () -> x.cold(12, 5, 4));
        Due.noArgument("9: from -1", () -> x.cold(1, -1, 4));
        Due.noArgument("9: from 1001", () -> x.cold(1, 1001, 1001));
        Due.noArgument("9: to 1001", () -> x.cold(1, 0, 1001));
        Due.noArgument("9: to under from", () -> x.cold(1, 5, 4));
        Due.noArgument("9: to is greatest", () -> x.cold(1, 0, Integer.MAX_VALUE));
        Due.is("9: nothing came of these", x.isIll(1, 0) || x.isIll(1, 4) || x.isIll(1, 5), false);
        x.play();
        Due.noArgument("9: a day before now", () -> x.cold(1, 0, 4));
        Due.is("9: from now", x.cold(1, 1, 4), 4);
    }

    private static void isIll() {
        CastDesk x = new CastDesk();
        x.cold(3, 10, 12);
        x.cold(3, 1000, 1000);
        for (int day = 8; day < 15; day++) {
            Due.is("10: day " + day, x.isIll(3, day), day >= 10 && day <= 12);
            Due.is("10: another actor, day " + day, x.isIll(4, day), false);
        }
        Due.is("10: the last day", x.isIll(3, 1000), true);
        Due.noIndex("10: actor 12", () -> x.isIll(12, 0));
        Due.noIndex("10: actor -1", () -> x.isIll(-1, 0));
        Due.noIndex("10: both wrong", () -> x.isIll(12, 1001));
        Due.noArgument("10: day 1001", () -> x.isIll(0, 1001));
        Due.noArgument("10: day -1", () -> x.isIll(0, -1));
        x.cold(5, 0, 0);
        x.play();
        Due.is("10: a day before now", x.isIll(5, 0), true);
    }

    private static void canPlay() {
        CastDesk x = new CastDesk();
        x.put(7, 2);
        x.learn(2, 7, true);
        x.costume(7, 5);
        x.cold(2, 3, 3);
        Due.is("11: a part outside the play", x.canPlay(2, 7, 2), true);
        Due.is("11: ill", x.canPlay(2, 7, 3), false);
        Due.is("11: well again", x.canPlay(2, 7, 4), true);
        Due.is("11: another part", x.canPlay(2, 6, 4), false);
        Due.is("11: another actor", x.canPlay(3, 7, 4), false);
        x.learn(2, 7, false);
        Due.is("11: does not know it", x.canPlay(2, 7, 4), false);
        x.learn(2, 7, true);
        x.take(7, 2);
        Due.is("11: not in the row", x.canPlay(2, 7, 4), false);
        x.put(7, 2);
        Due.is("11: the last day", x.canPlay(2, 7, 1000), true);
        Due.noIndex("11: actor 12", () -> x.canPlay(12, 0, 0));
        Due.noIndex("11: actor -1", () -> x.canPlay(-1, 0, 0));
        Due.noIndex("11: part 8", () -> x.canPlay(0, 8, 0));
        Due.noIndex("11: part -1", () -> x.canPlay(0, -1, 0));
        Due.noIndex("11: part and day wrong", () -> x.canPlay(0, 8, -1));
        Due.noArgument("11: day 1001", () -> x.canPlay(0, 0, 1001));
        Due.noArgument("11: day -1", () -> x.canPlay(0, 0, -1));
    }

    private static void canPlayByCostume() {
        CastDesk x = new CastDesk();
        x.put(0, 0);
        x.learn(0, 0, true);
        Due.is("11: no costume", x.canPlay(0, 0, 0), false);
        x.costume(0, 4);
        x.costume(1, 6);
        for (int size = 0; size < 10; size++) {
            x.setSize(0, size);
            Due.is("11: size " + size, x.canPlay(0, 0, 0), size == 4 || size == 5);
        }
        x.setSize(0, 5);
        x.show(0);
        x.play();
        for (int size = 0; size < 10; size++) {
            x.setSize(0, size);
            Due.is("11: let out, size " + size, x.canPlay(0, 0, 1), size == 5);
        }
    }
}
