/** Theatres for the tests, made the same every time, each with few enough calls that a Trace still fits in 512. */
final class Houses {
    /** Four actors for each of eight parts; the actor p is in the row of the part p. */
    private static final int[][] FULL_ROWS = {
        {0, 1, 2, 11}, {1, 2, 0, 10}, {2, 3, 4, 9}, {3, 4, 5, 8},
        {4, 5, 6, 7}, {5, 6, 7, 3}, {6, 7, 8, 9}, {7, 8, 9, 10},
    };

    private Houses() {
    }

    static int[] row(int... actors) {
        return actors;
    }

    /** A play of so many parts with a row for each, all of whom know their parts, and a costume of size 5 each. */
    static CastDesk play(int[]... rows) {
        CastDesk x = new CastDesk();
        x.setParts(rows.length);
        for (int part = 0; part < rows.length; part++) {
            x.costume(part, 5);
            fill(x, part, rows[part]);
        }
        return x;
    }

    static void fill(CastDesk x, int part, int... actors) {
        for (int actor : actors) {
            x.put(part, actor);
            x.learn(actor, part, true);
        }
    }

    /** The day 2 of a play of three parts: a show was played, one cancelled, two are ahead; a costume is let out. */
    static CastDesk busy() {
        CastDesk x = new CastDesk();
        x.setParts(3);
        fill(x, 0, 0, 1, 3, 4);
        fill(x, 1, 1, 5);
        fill(x, 2, 2);
        fill(x, 7, 7, 0);
        for (int part = 0; part < 3; part++) {
            x.costume(part, 5);
            x.costume(part, 5);
        }
        x.costume(7, 9);
        x.setSize(0, 6);
        for (int day : new int[] {0, 1, 3, 1000}) {
            x.show(day);
        }
        for (int seat = 0; seat < 16; seat++) {
            x.sell(seat % 4, 7 + 61 * seat, seat / 4, seat % 3);
        }
        x.cold(2, 1, 1);
        x.cold(11, 0, 4);
        x.cold(0, 3, 3);
        x.cold(3, 999, 1000);
        x.play();
        x.play();
        return x;
    }

    /** The day 2, with all that can be full: rows, costumes, shows, seats, the parts that 7 and 11 know. */
    static CastDesk full() {
        CastDesk x = new CastDesk();
        x.setParts(8);
        for (int part = 0; part < 8; part++) {
            fill(x, part, FULL_ROWS[part]);
        }
        for (int part = 1; part < 4; part++) {
            x.learn(11, part, true);
        }
        for (int costume = 0; costume < 40; costume++) {
            x.costume(costume % 8, costume % 10);
        }
        for (int show = 0; show < 40; show++) {
            x.show(show < 39 ? show : 1000);
        }
        for (int seat = 0; seat < 100; seat++) {
            x.sell(seat % 40, 1 + 10 * seat, seat % 4, seat / 4 % 8);
        }
        for (int actor : FULL_ROWS[0]) {
            x.cold(actor, 1, 1);
        }
        x.cold(3, 2, 3);
        x.play();
        x.play();
        return x;
    }
}
