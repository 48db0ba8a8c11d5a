import java.util.NoSuchElementException;
import java.util.Random;

/** The class and the model side by side: each call is done on both, and the answers are held against one another. */
final class Both {
    static final int THROWN = Integer.MIN_VALUE + 7;

    final SevenTable x = new SevenTable();
    final Model m = new Model();
    final StringBuilder told = new StringBuilder();
    int wrong = 0;
    int calls = 0;

    private long same(String call, long got, long want) {
        calls++;
        told.append(call).append(" -> ").append(got).append('\n');
        if (got != want) {
            wrong++;
            System.out.println(told + "due is " + want);
        }
        return got;
    }

    static int pack(byte[] bytes, int from) {
        int number = 0;
        for (int i = 0; i < 4; i++) {
            number = number << 8 | (from + i < bytes.length ? bytes[from + i] & 255 : 0);
        }
        return number;
    }

    /** Feeds a text as the whole tape. */
    void write(String text) {
        byte[] bytes = text.getBytes(java.nio.charset.StandardCharsets.ISO_8859_1);
        end(0);
        for (int i = 0; i < bytes.length; i += 20) {
            feed(pack(bytes, i), pack(bytes, i + 4), pack(bytes, i + 8), pack(bytes, i + 12), pack(bytes, i + 16));
        }
        end(bytes.length);
        told.append("tape: ").append(text).append('\n');
    }

    long feed(int a, int b, int c, int d, int e) {
        return same("feed", x.feed(a, b, c, d, e), m.feed(a, b, c, d, e));
    }

    long end(int n) {
        return same("end(" + n + ")", x.end(n) ? 1 : 0, m.end(n) ? 1 : 0);
    }

    long table() {
        return same("table()", x.table(), m.table());
    }

    long fault() {
        return same("fault()", x.fault(), m.fault);
    }

    long hand(int p, int k) {
        long got;
        long want;
        try {
            got = x.hand(p, k);
        } catch (NoSuchElementException e) {
            got = THROWN;
        }
        try {
            want = m.hand(p, k);
        } catch (NoSuchElementException e) {
            want = THROWN;
        }
        return same("hand(" + p + ", " + k + ")", got, want);
    }

    long odds(int o, int q, int k, int what) {
        long got;
        long want;
        try {
            got = x.odds(o, q, k, what);
        } catch (NoSuchElementException e) {
            got = THROWN;
        }
        try {
            want = m.odds(o, q, k, what);
        } catch (NoSuchElementException e) {
            want = THROWN;
        }
        return same("odds(" + o + ", " + q + ", " + k + ", " + what + ")", got, want);
    }

    long next(int o, int k, int what) {
        long got;
        long want;
        try {
            got = x.next(o, k, what);
        } catch (NoSuchElementException e) {
            got = THROWN;
        }
        try {
            want = m.next(o, k, what);
        } catch (NoSuchElementException e) {
            want = THROWN;
        }
        return same("next(" + o + ", " + k + ", " + what + ")", got, want);
    }

    long person(int p, int what) {
        return same("person(" + p + ", " + what + ")", x.person(p, what), m.person(p, what));
    }

    long book(int k) {
        return same("book(" + k + ")", x.book(k), m.book(k));
    }

    long heap(int i) {
        return same("heap(" + i + ")", x.heap(i), m.heap(i));
    }

    long now(int what) {
        return same("now(" + what + ")", x.now(what), m.now(what));
    }

    long why(int p, int q, int k) {
        return same("why(" + p + ", " + q + ", " + k + ")", x.why(p, q, k), m.why(p, q, k));
    }

    long ask(int p, int q, int k, int lies) {
        return same("ask(" + p + ", " + q + ", " + k + ", " + lies + ")", x.ask(p, q, k, lies), m.ask(p, q, k, lies));
    }

    long asked(int what) {
        return same("asked(" + what + ")", x.asked(what), m.asked(what));
    }

    long undo() {
        return same("undo()", x.undo(), m.undo());
    }

    long known(int p, int k) {
        return same("known(" + p + ", " + k + ")", x.known(p, k), m.known(p, k));
    }

    long can(int p, int k) {
        return same("can(" + p + ", " + k + ")", x.can(p, k), m.can(p, k));
    }

    long whom(int o) {
        return same("whom(" + o + ")", x.whom(o), m.whom(o));
    }

    long sweep(int p) {
        return same("sweep(" + p + ")", x.sweep(p), m.sweep(p));
    }

    long swept(int i) {
        return same("swept(" + i + ")", x.swept(i), m.swept(i));
    }

    long gains(int p) {
        return same("gains(" + p + ")", x.gains(p), m.gains(p));
    }

    long open() {
        return same("open()", x.open(), m.open());
    }

    long first() {
        return same("first()", x.first(), m.first());
    }

    long bent(int p, int rule) {
        return same("bent(" + p + ", " + rule + ")", x.bent(p, rule), m.bent(p, rule));
    }

    long play(int n) {
        return same("play(" + n + ")", x.play(n), m.play(n));
    }

    long deal(int n, int seed) {
        return same("deal(" + n + ", " + seed + ")", x.deal(n, seed) ? 1 : 0, m.deal(n, seed) ? 1 : 0);
    }

    long games(int i, int j, int n, int seed) {
        return same("games(" + i + ", " + j + ", " + n + ", " + seed + ")", x.games(i, j, n, seed),
                m.games(i, j, n, seed));
    }

    long length(int i, int j, int n, int seed) {
        return same("length(" + i + ", " + j + ", " + n + ", " + seed + ")", x.length(i, j, n, seed),
                m.length(i, j, n, seed));
    }

    long reply(int j, int n, int seed) {
        return same("reply(" + j + ", " + n + ", " + seed + ")", x.reply(j, n, seed), m.reply(j, n, seed));
    }

    long leader() {
        return same("leader()", x.leader(), m.leader());
    }

    long evening(int lives) {
        return same("evening(" + lives + ")", x.evening(lives), m.evening(lives));
    }

    long heard(int what) {
        return same("heard(" + what + ")", x.heard(what), m.heard(what));
    }

    long sentence() {
        return same("sentence()", x.sentence(), m.sentence());
    }

    long said(int k) {
        return same("said(" + k + ")", x.said(k), m.said(k));
    }

    long image(int k) {
        return same("image(" + k + ")", x.image(k) ? 1 : 0, m.image(k) ? 1 : 0);
    }

    long restore(int k) {
        return same("restore(" + k + ")", x.restore(k) ? 1 : 0, m.restore(k) ? 1 : 0);
    }

    long count(int what) {
        return same("count(" + what + ")", x.count(what), m.count(what));
    }

    /** Holds all that can be read of the cards and of what is known against the model. */
    void readAll() {
        int persons = m.s.people.size();
        for (int p = -1; p <= persons; p++) {
            for (int what = -1; what <= 8; what++) {
                person(p, what);
            }
            for (int k = -1; k <= m.s.kinds; k++) {
                hand(p, k);
                known(p, k);
                can(p, k);
            }
        }
        for (int k = -1; k <= m.s.kinds; k++) {
            book(k);
        }
        for (int i = -1; i <= m.s.heap.size(); i++) {
            heap(i);
        }
        for (int what = -1; what <= 8; what++) {
            now(what);
            asked(what);
            heard(what);
            count(what);
        }
        fault();
        leader();
    }

    static int from(Random r, int least, int most) {
        return least + r.nextInt(most - least + 1);
    }
}
