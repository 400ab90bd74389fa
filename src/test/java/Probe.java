import java.util.Arrays;

/** Asks all that an object can be asked, so that two objects in one state answer alike and others don't. */
final class Probe {
    private final NapkinDeeds x;
    private final StringBuilder answers = new StringBuilder();

    private interface Ask {
        long of();
    }

    private Probe(NapkinDeeds x) {
        this.x = x;
    }

    /** The answers; the object is used up then. */
    static String of(NapkinDeeds x) {
        return x.fault(0) + " " + x.fault(1) + " " + butFault(x);
    }

    static String butFault(NapkinDeeds x) {
        Probe p = new Probe(x);
        p.napkin();
        p.searches();
        p.trays();
        p.pastDeeds();
        p.images();
        p.tape();
        return p.answers.toString();
    }

    /** What all searches answer; the trays 0 to 2 are used up then. */
    static String searches(NapkinDeeds x) {
        Probe p = new Probe(x);
        int cells = x.count(1);
        long[] stack = new long[cells];
        long[] creases = new long[Math.max(0, cells - 1)];
        for (int c = 0; c < cells; c++) {
            stack[c] = c;
        }
        for (int k = 0; k < creases.length; k++) {
            creases[k] = 2 - k % 2;
        }
        Edges.fill(x, 0, stack);
        Edges.fill(x, 1, creases);
        p.searches();
        p.ask(() -> x.stands(0) ? 1 : 0);
        p.ask(() -> x.stack(0));
        p.ask(() -> x.made(1));
        p.ask(() -> x.madeBy(1, 0));
        for (int marks = 1; marks <= 6; marks++) {
            long[] any = new long[marks];
            Arrays.fill(any, NapkinDeeds.NONE);
            Edges.fill(x, 2, any);
            p.ask(() -> x.reads(2, 0));
            p.ask(() -> x.seen(2, 4));
            p.ask(() -> x.sure(2, 4));
            p.ask(() -> x.look(2, 4));
        }
        return p.answers.toString();
    }

    private void ask(Ask ask) {
        try {
            answers.append(ask.of()).append(' ');
        } catch (RuntimeException e) {
            answers.append(e.getClass().getSimpleName()).append(' ');
        }
    }

    private void napkin() {
        answers.append('<').append(Edges.lies(x)).append("> ");
        for (int what = 0; what <= 10; what++) {
            int which = what;
            ask(() -> x.count(which));
        }
        for (int c = 0; c < x.count(1); c++) {
            int which = c;
            ask(() -> x.cell(which, 0));
            ask(() -> x.cell(which, 1));
        }
        for (int k = 0; k < x.count(5); k++) {
            int which = k;
            ask(() -> x.folded(which));
        }
        for (int guest = 0; guest < x.count(2); guest++) {
            int which = guest;
            ask(() -> x.likes(which));
        }
        ask(x::worth);
        ask(() -> x.holds() ? 1 : 0);
    }

    private void searches() {
        ask(() -> x.rows(2));
        ask(() -> x.looks(5));
        ask(() -> x.soonest(0));
        ask(() -> x.holding(5));
        ask(() -> x.best(5, 0));
        ask(x::step);
        ask(x::stacks);
        ask(x::simple);
        ask(x::patterns);
        ask(x::refuse);
        ask(() -> x.fairest(5, 0));
        ask(() -> x.better(5));
        ask(() -> x.keenest(5));
    }

    private void trays() {
        for (int tray = 0; tray < 4; tray++) {
            int which = tray;
            for (int what = 0; what < 4; what++) {
                int whatOfIt = what;
                ask(() -> x.judge(which, whatOfIt));
            }
            ask(() -> x.reads(which, 0));
            ask(() -> x.seen(which, 4));
            ask(() -> x.stands(which) ? 1 : 0);
            ask(() -> x.made(which));
        }
        for (int tray = 0; tray < 4; tray++) {
            int which = tray;
            for (int place : new int[] {0, 1, 2, 3, 4, 29}) {
                ask(() -> x.write(which, place, 0x123456789ABCDEFL));
            }
        }
    }

    private void pastDeeds() {
        for (int i = 0; i < 10 && x.count(9) > 0; i++) {
            ask(() -> x.undo(1));
            napkin();
        }
    }

    private void images() {
        for (int i = 0; i < 3; i++) {
            int image = i;
            ask(() -> {
                x.restore(image);
                return 0;
            });
            napkin();
        }
    }

    private void tape() {
        ask(() -> x.napkin(x.count(10)));
        ask(() -> x.fault(0));
        ask(() -> x.fault(1));
        napkin();
    }
}
