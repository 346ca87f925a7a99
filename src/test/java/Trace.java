import java.util.function.IntSupplier;

/**
 * All that can be seen of a theatre, each kind in some 210 calls or fewer: two theatres are the same if their
 * traces are. Taking a trace changes the theatre, for rows and sizes can't be seen otherwise.
 */
final class Trace {
    static final int KINDS = 7;

    private final CastDesk x;
    private final StringBuilder seen = new StringBuilder();

    private Trace(CastDesk x) {
        this.x = x;
    }

    static String of(CastDesk x, int kind) {
        Trace trace = new Trace(x);
        trace.see(x::day);
        trace.see(x::takings);
        switch (kind) {
            case 0:
                trace.people(0);
                break;
            case 6:
                trace.people(7);
                break;
            case 1:
                trace.colds();
                break;
            case 2:
                trace.casts();
                break;
            case 3:
                trace.costumes();
                break;
            case 4:
                trace.shows();
                break;
            default:
                trace.laterDays();
        }
        return trace.seen.toString();
    }

    private void see(IntSupplier call) {
        try {
            seen.append(call.getAsInt());
        } catch (RuntimeException e) {
            seen.append(e.getClass().getSimpleName());
        }
        seen.append(' ');
    }

    /** From which part on it goes matters: the first part that is forgotten can't be told from one never known. */
    private void people(int first) {
        see(() -> x.setParts(1));
        see(() -> x.costume(0, 0));
        for (int each = 0; each < 12; each++) {
            int actor = each;
            see(() -> x.setSize(actor, 0));
            for (int which = 0; which < 8; which++) {
                int part = first == 0 ? which : first - which;
                see(() -> x.take(part, actor));
                see(() -> x.learn(actor, part, false));
            }
        }
    }

    private void colds() {
        for (int each = 0; each < 12; each++) {
            int actor = each;
            for (int when = 0; when < 12; when++) {
                int day = when < 10 ? when : 989 + when;
                see(() -> x.isIll(actor, day) ? 1 : 0);
            }
            see(() -> x.cold(actor, x.day(), 1000));
        }
    }

    private void casts() {
        for (int when = 1; when < 4; when++) {
            int day = when < 3 ? when : 1000;
            see(() -> x.strain(day));
            see(() -> x.strainByAll(day));
            see(() -> x.work(day));
            for (int each = 0; each < 12; each++) {
                int actor = each;
                see(() -> x.chain(actor, day));
            }
            for (int which = 0; which < 8; which++) {
                int part = which;
                see(() -> x.actorFor(day, part));
            }
        }
        for (int place = 0; place < 96; place++) {
            int actor = place / 8;
            int part = place % 8;
            see(() -> x.canPlay(actor, part, 2) ? 1 : 0);
        }
    }

    /** The sizes of costumes, and by the actor p, who is in the row of the part p, which can still be let out. */
    private void costumes() {
        for (int each = 0; each <= 40; each++) {
            int costume = each;
            see(() -> x.sizeOf(costume));
        }
        for (int which = 0; which < 8; which++) {
            int part = which;
            for (int each = 0; each < 10; each++) {
                int size = each;
                x.setSize(part, size);
                see(() -> x.canPlay(part, part, 20) ? 1 : 0);
            }
        }
    }

    private void shows() {
        states();
        for (int place = 0; place < 40; place++) {
            int show = place < 32 ? place / 8 : 39;
            int part = place % 8;
            see(() -> x.played(show, part));
        }
        see(() -> x.show(500));
    }

    private void laterDays() {
        for (int day = 0; day < 6; day++) {
            see(x::play);
        }
        see(x::takings);
        states();
        for (int place = 0; place < 32; place++) {
            int show = 2 + place / 8;
            int part = place % 8;
            see(() -> x.played(show, part));
        }
    }

    private void states() {
        for (int each = 0; each <= 40; each++) {
            int show = each;
            see(() -> x.stateOf(show));
        }
        for (int each = 0; each <= 100; each++) {
            int seat = each;
            see(() -> x.refund(seat));
        }
    }
}
