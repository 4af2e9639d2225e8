/** All that the calls of the face tell of an object, as one text, so that two objects can be held side by side. */
final class Look {
    private static final int COPIES = 3;
    private static final int LOANS = 3;

    private final LoanArrows x;
    private final int n;
    private final StringBuilder text = new StringBuilder();

    private Look(LoanArrows x, int n) {
        this.x = x;
        this.n = n;
    }

    /** Only looks: the object is the same behind it. */
    static String at(LoanArrows x, int n) {
        Look look = new Look(x, n);
        look.copies();
        look.post();
        return look.text.toString();
    }

    /** Looks, and then uses the object up to learn what no call tells: who is down, what lines hold and await. */
    static String through(LoanArrows x, int n) {
        Look look = new Look(x, n);
        look.copies();
        look.post();
        look.restarts();
        look.lines();
        return look.text.toString();
    }

    private void copies() {
        for (int copy = 0; copy < COPIES; copy++) {
            int place = x.place(copy);
            text.append("\n  copy ").append(copy).append(" at ").append(place).append(" chain");
            for (int i = 0; i <= n; i++) {
                text.append(' ').append(x.chain(copy, i));
            }
            text.append(" served");
            for (int i = 0; i < LOANS; i++) {
                text.append(' ').append(x.served(copy, i));
            }
            for (int library = 0; library < n; library++) {
                desk(library, copy, place != LoanArrows.NONE);
            }
        }
    }

    private void desk(int library, int copy, boolean placed) {
        text.append(" | ").append(library).append(':');
        for (int what = 0; what < 5; what++) {
            text.append(' ').append(x.of(library, copy, what));
        }
        text.append(" queue");
        int readers = x.of(library, copy, 3);
        for (int i = 0; i <= readers; i++) {
            text.append(' ').append(x.reader(library, copy, i));
        }
        if (placed) {
            text.append(x.leads(library, copy) ? " leads" : " astray");
        }
    }

    private void post() {
        text.append("\n  quiet ").append(x.quiet()).append(" post");
        int pending = x.pending();
        for (int i = 0; i < pending; i++) {
            text.append(" (").append(x.packet(i, 0));
            for (int what = 1; what < 6; what++) {
                text.append(' ').append(x.packet(i, what));
            }
            text.append(')');
        }
    }

    private void restarts() {
        text.append("\n  restart");
        for (int library = 0; library < n; library++) {
            try {
                text.append(' ').append(x.restart(library));
            } catch (IllegalStateException e) {
                text.append(" up");
            }
        }
    }

    /** With an empty post each line tells its first letter, and delivering that tells what is awaited. */
    private void lines() {
        for (int left = x.pending(); left > 0; ) {
            left = x.drop(0);
        }
        text.append("\n  lines");
        for (int library = 0; library < n; library++) {
            text.append(' ').append(x.sendAll(library));
        }
        post();
        text.append("\n  delivered");
        for (int i = 0; i < 4 * n && x.pending() > 0; i++) {
            text.append(' ').append(x.deliver(0));
        }
        post();
    }
}
