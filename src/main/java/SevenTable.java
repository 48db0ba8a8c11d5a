import java.util.Arrays;
import java.util.NoSuchElementException;

/** A table at which people ask one another for cards of a kind; the document's face and nothing beside it. */
public final class SevenTable {
    public static final int NONE = -1;

    private static final int MOST_KINDS = 13;
    private static final int MOST_PERSONS = 6;
    private static final int PACK = 52;
    private static final int FOUR = 4;
    private static final int RULES = 4;
    private static final int TAPE_BYTES = 940;
    private static final int TABLE_BYTES = 900;
    private static final int EVENING_BYTES = 500;
    private static final int SENTENCE_BYTES = 200;
    private static final int MOST_LINES = 30;
    private static final int MOST_PLAYED = 400;
    private static final int MOST_GAMES = 30;
    private static final int GAME_ASKINGS = 300;
    private static final int GAME_HAND = 5;
    private static final int MOST_DEALT = 9;
    private static final int PLACES = 2;
    private static final int HUNDRED = 100;
    private static final int NO_OPEN = NONE - 100;
    private static final int NO_EVENING = -1000;

    private static final int REPORT_SIZE = 8;
    private static final int WHO = 0;
    private static final int WHOM = 1;
    private static final int WHAT = 2;
    private static final int GIVEN = 3;
    private static final int DRAWN = 4;
    private static final int LAID = 5;
    private static final int LIED = 6;
    private static final int SURE = 7;

    private final byte[] tape = new byte[TAPE_BYTES];
    private int tapeSize = 0;
    private int faultKind = 0;
    private final Game game = new Game();
    private final Game trial = new Game();
    private final Sentence told = new Sentence();
    private final Reader reader = new Reader();
    private final TableText tableText = new TableText(reader);
    private final EveningText eveningText = new EveningText(reader);
    private final SentenceText sentenceText = new SentenceText(reader);
    private final Past past = new Past();
    private final Game[] keptGames = new Game[PLACES];
    private final Sentence[] keptSentences = new Sentence[PLACES];
    private final int[] latest = new int[REPORT_SIZE];
    private final int[] trialReport = new int[REPORT_SIZE];
    private final int[] verdict = new int[4];
    private final int[] sweepRow = new int[MOST_KINDS * MOST_PERSONS];
    private int sweepSize = 0;
    private Odds onlooker = null;
    private Duel duel = null;

    public SevenTable() {
        Arrays.fill(latest, NONE);
        Arrays.fill(verdict, NONE);
    }

    public int feed(int a, int b, int c, int d, int e) {
        if (tapeSize + 20 > TAPE_BYTES) {
            return NONE;
        }
        putFour(a);
        putFour(b);
        putFour(c);
        putFour(d);
        putFour(e);
        return tapeSize;
    }

    public boolean end(int n) {
        if (n < 0 || n > tapeSize) {
            return false;
        }
        tapeSize = n;
        return true;
    }

    public int table() {
        boolean fine = tableText.read(tape, tapeSize, trial);
        tapeSize = 0;
        faultKind = reader.faultKind;
        if (!fine) {
            return -1 - reader.faultPlace;
        }
        trial.start();
        game.copyFrom(trial);
        told.clear();
        past.clear();
        return tableText.lines;
    }

    public int fault() {
        return faultKind;
    }

    public int hand(int p, int kind) throws NoSuchElementException {
        if (!game.hasPerson(p) || !game.hasKind(kind)) {
            throw new NoSuchElementException("no such person or kind");
        }
        return game.held(p, kind);
    }

    public int person(int p, int what) {
        if (!game.hasPerson(p)) {
            return NONE;
        }
        switch (what) {
            case 0:
                return game.cards[p];
            case 1:
                return game.booksOf(p);
            case 2:
                return game.kindBits(p);
            case 3:
                return game.seen.othersOf(p);
            case 4:
                return game.seen.caught[p];
            case 5:
                return game.askedTimes[p];
            case 6:
                return game.givenTo[p];
            case 7:
                return game.lastDrawn[p];
            default:
                return NONE;
        }
    }

    public int book(int kind) {
        return game.hasKind(kind) ? game.owner[kind] : NONE;
    }

    public int heap(int i) {
        return i >= 0 && i < game.heapSize() ? game.heap[game.heapFrom + i] : NONE;
    }

    public int now(int what) {
        switch (what) {
            case 0:
                return game.turn;
            case 1:
                return game.heapSize();
            case 2:
                return game.askings;
            case 3:
                return game.allBooks();
            case 4:
                return game.vain;
            case 5:
                return game.loose();
            default:
                return NONE;
        }
    }

    public int why(int p, int q, int kind) {
        return areSuch(p, q, kind) ? game.whyNot(p, q, kind) : NONE;
    }

    public int ask(int p, int q, int kind, int lies) {
        if (!areSuch(p, q, kind) || lies < 0 || lies > 1) {
            return NONE;
        }
        int whyNot = game.whyNot(p, q, kind);
        if (whyNot != 0) {
            return -2 - whyNot;
        }
        past.keep(game);
        return game.doAsking(p, q, kind, lies == 1, latest);
    }

    public int asked(int what) {
        return what >= 0 && what < REPORT_SIZE ? latest[what] : NONE;
    }

    public int undo() {
        return past.takeBack(game) ? past.size : NONE;
    }

    public int known(int p, int kind) {
        return game.hasPerson(p) && game.hasKind(kind) ? game.seen.sureOf(p, kind) : NONE;
    }

    public int can(int p, int kind) {
        return game.hasPerson(p) && game.hasKind(kind) ? game.seen.mayBe(p, kind) : NONE;
    }

    public long odds(int o, int q, int kind, int what) throws NoSuchElementException {
        if (!areSuch(o, q, kind) || o == q || what < 0 || what > 1) {
            throw new NoSuchElementException("no such persons, kind or part");
        }
        Odds eye = takeOnlooker();
        if (!eye.look(game, o)) {
            throw new NoSuchElementException("too much is unseen, or there is no way");
        }
        return part(eye.waysWithSome(game, q, kind), eye.allWays, what);
    }

    public long next(int o, int kind, int what) throws NoSuchElementException {
        if (!game.hasPerson(o) || !game.hasKind(kind) || what < 0 || what > 1) {
            throw new NoSuchElementException("no such person, kind or part");
        }
        int left = game.heapSize();
        if (left == 0) {
            throw new NoSuchElementException("the heap is empty");
        }
        Odds eye = takeOnlooker();
        if (!eye.look(game, o)) {
            throw new NoSuchElementException("too much is unseen, or there is no way");
        }
        return part(eye.waysDrawn(kind), eye.allWays * left, what);
    }

    public int whom(int o) {
        if (!game.hasPerson(o) || game.cards[o] == 0 || game.persons < 2) {
            return NONE;
        }
        Odds eye = takeOnlooker();
        return eye.look(game, o) ? eye.likeliest(game, o) : NONE;
    }

    public int sweep(int p) {
        if (!game.hasPerson(p)) {
            return NONE;
        }
        sweepSize = 0;
        for (int kind = 0; kind < game.kinds; kind++) {
            if (game.held(p, kind) > 0) {
                sweepKind(p, kind);
            }
        }
        return sweepSize;
    }

    public int swept(int i) {
        return i >= 0 && i < sweepSize ? sweepRow[i] : NONE;
    }

    public int gains(int p) {
        if (!game.hasPerson(p)) {
            return NONE;
        }
        int books = game.booksOf(p);
        for (int kind = 0; kind < game.kinds; kind++) {
            if (game.held(p, kind) > 0 && game.inHands(kind) == FOUR) {
                books++;
            }
        }
        return books;
    }

    public int open() {
        return isOpen() ? takeDuel().difference(game) : NO_OPEN;
    }

    public int first() {
        return isOpen() ? takeDuel().bestKind(game) : NONE;
    }

    public int bent(int p, int rule) {
        return game.hasPerson(p) && isRule(rule) ? game.choice(p, rule) : NONE;
    }

    public int play(int n) {
        boolean fine = n >= 1 && n <= MOST_PLAYED && hasRulesOnTape();
        tapeSize = 0;
        if (!fine) {
            return NONE;
        }
        trial.copyFrom(game);
        int done = 0;
        while (done < n && game.hasPerson(game.turn)) {
            int choice = game.choice(game.turn, tape[game.turn]);
            if (choice < 0) {
                break;
            }
            game.doAsking(game.turn, choice / HUNDRED, choice % HUNDRED, false, latest);
            done++;
        }
        if (done > 0) {
            past.keep(trial);
        }
        return done;
    }

    public boolean deal(int n, int seed) {
        if (n < 1 || n > MOST_DEALT || !game.canDeal(n)) {
            return false;
        }
        past.keep(game);
        game.dealOut(n, seed);
        game.start();
        return true;
    }

    public int games(int i, int j, int n, int seed) {
        return areGames(i, j, n) ? playGames(i, j, n, seed, false) : NONE;
    }

    public int length(int i, int j, int n, int seed) {
        return areGames(i, j, n) ? playGames(i, j, n, seed, true) : NONE;
    }

    public int reply(int j, int n, int seed) {
        if (!areGames(0, j, n)) {
            return NONE;
        }
        int best = 0;
        int most = NONE;
        for (int rule = 0; rule < RULES; rule++) {
            int wins = playGames(rule, j, n, seed, false);
            if (wins > most) {
                most = wins;
                best = rule;
            }
        }
        return best;
    }

    public int leader() {
        int best = NONE;
        int most = NONE;
        for (int p = 0; p < game.persons; p++) {
            int books = game.booksOf(p);
            if (books > most) {
                most = books;
                best = p;
            }
        }
        return best;
    }

    public int evening(int lives) {
        if (lives < 0 || lives > 1) {
            return NO_EVENING;
        }
        boolean fine = eveningText.read(tape, tapeSize, game);
        tapeSize = 0;
        faultKind = reader.faultKind;
        if (!fine) {
            return -2 - reader.faultPlace;
        }
        int right = judge();
        if (lives == 1 && right > 0) {
            past.keep(game);
            game.copyFrom(trial);
            System.arraycopy(trialReport, 0, latest, 0, REPORT_SIZE);
        }
        return right < eveningText.lines ? right : NONE;
    }

    public int heard(int what) {
        return what >= 0 && what < verdict.length ? verdict[what] : NONE;
    }

    public int sentence() {
        boolean fine = sentenceText.read(tape, tapeSize, game);
        tapeSize = 0;
        faultKind = reader.faultKind;
        if (!fine) {
            return -1 - reader.faultPlace;
        }
        told.copyFrom(sentenceText.made);
        return sentenceText.ones;
    }

    public int said(int k) {
        if (told.size == 0 || k < NONE) {
            return NONE;
        }
        int found = 0;
        for (int kind = 0; kind < game.kinds; kind++) {
            if (told.holdsFor(game, kind)) {
                if (found == k) {
                    return kind;
                }
                found++;
            }
        }
        return k == NONE ? found : NONE;
    }

    public boolean image(int k) {
        if (k < 0 || k >= PLACES) {
            return false;
        }
        if (keptGames[k] == null || keptSentences[k] == null) {
            keptGames[k] = new Game();
            keptSentences[k] = new Sentence();
        }
        keptGames[k].copyFrom(game);
        keptSentences[k].copyFrom(told);
        return true;
    }

    public boolean restore(int k) {
        if (k < 0 || k >= PLACES || keptGames[k] == null || keptSentences[k] == null) {
            return false;
        }
        game.copyFrom(keptGames[k]);
        told.copyFrom(keptSentences[k]);
        past.clear();
        return true;
    }

    public int count(int what) {
        switch (what) {
            case 0:
                return game.kinds;
            case 1:
                return game.persons;
            case 2:
                return game.again ? 1 : 0;
            case 3:
                return game.refill;
            case 4:
                return tapeSize;
            default:
                return NONE;
        }
    }

    private void putFour(int number) {
        for (int shift = 24; shift >= 0 && tapeSize < TAPE_BYTES; shift -= 8) {
            tape[tapeSize] = (byte) (number >>> shift);
            tapeSize++;
        }
    }

    private boolean areSuch(int p, int q, int kind) {
        return game.hasPerson(p) && game.hasPerson(q) && game.hasKind(kind);
    }

    private boolean isRule(int rule) {
        return rule >= 0 && rule < RULES;
    }

    private boolean hasRulesOnTape() {
        if (game.persons == 0 || tapeSize != game.persons) {
            return false;
        }
        for (int p = 0; p < game.persons; p++) {
            if (!isRule(tape[p])) {
                return false;
            }
        }
        return true;
    }

    private void sweepKind(int p, int kind) {
        for (int q = 0; q < game.persons; q++) {
            if (q != p && game.held(q, kind) > 0 && sweepSize < sweepRow.length) {
                sweepRow[sweepSize] = HUNDRED * q + kind;
                sweepSize++;
            }
        }
    }

    private boolean isOpen() {
        return game.persons == 2 && game.kinds <= Duel.KINDS && game.heapSize() <= Duel.HEAP
                && game.hasPerson(game.turn);
    }

    private boolean areGames(int i, int j, int n) {
        return isRule(i) && isRule(j) && n >= 1 && n <= MOST_GAMES && game.persons >= 2 && game.canDeal(GAME_HAND);
    }

    /** How many games person 0 wins, or how many askings they take; they are played on a copy, so nothing stays. */
    private int playGames(int i, int j, int n, int seed, boolean askings) {
        int wins = 0;
        int all = 0;
        for (int g = 0; g < n; g++) {
            trial.copyFrom(game);
            trial.dealOut(GAME_HAND, seed + g);
            trial.start();
            for (int a = 0; a < GAME_ASKINGS && trial.hasPerson(trial.turn); a++) {
                int choice = trial.choice(trial.turn, trial.turn == 0 ? i : j);
                if (choice < 0) {
                    break;
                }
                trial.doAsking(trial.turn, choice / HUNDRED, choice % HUNDRED, false, trialReport);
            }
            all += trial.askings;
            if (trial.isAheadOfAll(0)) {
                wins++;
            }
        }
        return askings ? all : wins;
    }

    /** Judges the evening that was read on a copy of the game: how many of its lines are right. */
    private int judge() {
        trial.copyFrom(game);
        int right = 0;
        int wrong = 0;
        while (right < eveningText.lines && wrong == 0) {
            int p = eveningText.askerOf(right);
            int q = eveningText.otherOf(right);
            int kind = eveningText.kindOf(right);
            wrong = trial.whyNot(p, q, kind);
            if (wrong == 0 && trial.held(q, kind) != eveningText.givenOf(right)) {
                wrong = 5;
            }
            if (wrong == 0) {
                trial.doAsking(p, q, kind, false, trialReport);
                right++;
            }
        }
        verdict[0] = wrong;
        verdict[1] = right;
        verdict[2] = trial.allBooks();
        verdict[3] = trial.turn;
        return right;
    }

    // The rows for counting are large, and many tables never ask for odds or open hands.
    private Odds takeOnlooker() {
        if (onlooker == null) {
            onlooker = new Odds();
        }
        return onlooker;
    }

    private Duel takeDuel() {
        if (duel == null) {
            duel = new Duel();
        }
        return duel;
    }

    /** The part above (0) or below (1) of a fraction in least terms. */
    private static long part(long above, long below, int what) {
        long a = above;
        long b = below;
        for (int step = 0; step < 200 && b != 0; step++) {
            long rest = a % b;
            a = b;
            b = rest;
        }
        long whole = what == 0 ? above : below;
        return a > 0 ? whole / a : whole;
    }

    /** Takes the tokens of a text one by one, and keeps the first fault. */
    private static final class Reader {
        static final int KINDS = 0;
        static final int PERSON = 1;
        static final int HAND = 2;
        static final int HEAP = 3;
        static final int AGAIN = 4;
        static final int REFILL = 5;
        static final int ASKS = 6;
        static final int GIVES = 7;
        static final int NO = 8;
        static final int OR = 9;
        static final int AND = 10;
        static final int NOT = 11;
        static final int BOOK = 12;
        static final int KNOWN = 13;
        static final int HELD = 14;
        static final int HANDS = 15;
        static final int HEAPED = 16;
        static final int MOST = 17;
        static final int PLACE = 18;
        static final int WORDS = 19;
        // Signs are told by their own bytes, which lie between the words and these.
        static final int NAME = 300;
        static final int NUMBER = 301;
        static final int END = 302;
        static final int BAD = 303;

        // In the order of the numbers above, a blank behind each.
        private static final String ALL_WORDS =
                "kinds person hand heap again refill asks gives no or and not book known held hands heaped most place ";

        private final long[] words = new long[WORDS];
        private byte[] text = new byte[0];
        private int size = 0;
        private int most = 0;
        private int at = 0;
        int token = END;
        int place = 0;
        int number = 0;
        long word = 0;
        int faultKind = 0;
        int faultPlace = 0;

        Reader() {
            int w = 0;
            long code = 0;
            for (int i = 0; i < ALL_WORDS.length() && w < WORDS; i++) {
                char sign = ALL_WORDS.charAt(i);
                if (sign == ' ') {
                    words[w] = code;
                    w++;
                    code = 0;
                } else {
                    code = code * 32 + (sign - 'a' + 1);
                }
            }
        }

        void begin(byte[] bytes, int length, int mostBytes) {
            text = bytes;
            size = Math.min(length, bytes.length);
            most = mostBytes;
            at = 0;
            faultKind = 0;
            faultPlace = 0;
            advance();
        }

        void advance() {
            while (at < size && (text[at] == 32 || text[at] == 10)) {
                at++;
            }
            place = at;
            if (size > most && at >= most) {
                place = most;
                token = BAD;
            } else if (at >= size) {
                token = END;
            } else if (!takeRun()) {
                int sign = text[at];
                boolean fine = sign == ';' || sign == '<' || sign == '=' || sign == '>' || sign == '(' || sign == ')';
                token = fine ? sign : BAD;
                at++;
            }
        }

        /** A run of letters and digits is one token or none, so it is taken whole: whether there is one here. */
        private boolean takeRun() {
            int letters = 0;
            int digits = 0;
            number = 0;
            word = 0;
            boolean inRun = true;
            while (inRun && at < size) {
                int sign = text[at];
                if (sign >= 'a' && sign <= 'z') {
                    letters++;
                    word = letters <= 7 ? word * 32 + (sign - 'a' + 1) : 0;
                } else if (sign >= '0' && sign <= '9') {
                    digits++;
                    number = digits <= 3 ? number * 10 + (sign - '0') : 0;
                } else {
                    inRun = false;
                }
                at += inRun ? 1 : 0;
            }
            if (letters > 0) {
                token = digits == 0 && letters <= 7 ? NAME : BAD;
            } else {
                token = digits <= 3 ? NUMBER : BAD;
            }
            for (int w = 0; w < WORDS && token == NAME; w++) {
                if (words[w] == word) {
                    token = w;
                }
            }
            return letters + digits > 0;
        }

        boolean isAt(int wanted) {
            return token == wanted;
        }

        /** Keeps a fault at the token, if it is the first; always false, so that callers can hand it on. */
        boolean fail(int kind) {
            if (faultKind == 0) {
                faultKind = kind;
                faultPlace = place;
            }
            return false;
        }

        boolean pass(int wanted) {
            if (!isAt(wanted)) {
                return fail(1);
            }
            advance();
            return true;
        }

        boolean isNumber(int least, int greatest) {
            if (!isAt(NUMBER)) {
                return fail(1);
            }
            return number >= least && number <= greatest || fail(2);
        }

        boolean isPerson(Game game) {
            if (!isAt(NAME)) {
                return fail(1);
            }
            return game.find(word) != NONE || fail(3);
        }
    }

    /** What all know: cards known by their kind, and of the others which kinds they can't be. */
    private static final class Knowledge {
        private static final int ALL_KINDS = (1 << MOST_KINDS) - 1;

        private final int[] sure = new int[MOST_PERSONS * MOST_KINDS];
        // Each one is its person above, and the kinds that it can't be as bits; they stand as they came.
        private final int[] others = new int[PACK];
        private int size = 0;
        final int[] caught = new int[MOST_PERSONS];

        void clear() {
            Arrays.fill(sure, 0);
            Arrays.fill(caught, 0);
            size = 0;
        }

        void copyFrom(Knowledge that) {
            System.arraycopy(that.sure, 0, sure, 0, sure.length);
            System.arraycopy(that.others, 0, others, 0, that.size);
            System.arraycopy(that.caught, 0, caught, 0, caught.length);
            size = that.size;
        }

        int sureOf(int p, int kind) {
            return sure[p * MOST_KINDS + kind];
        }

        void setSure(int p, int kind, int cards) {
            sure[p * MOST_KINDS + kind] = cards;
        }

        int othersOf(int p) {
            int found = 0;
            for (int i = 0; i < size; i++) {
                if (others[i] >> MOST_KINDS == p) {
                    found++;
                }
            }
            return found;
        }

        int mayBe(int p, int kind) {
            int found = 0;
            for (int i = 0; i < size; i++) {
                if (others[i] >> MOST_KINDS == p && (others[i] >> kind & 1) == 0) {
                    found++;
                }
            }
            return found;
        }

        int countOthers() {
            return size;
        }

        int ownerAt(int i) {
            return i >= 0 && i < size ? others[i] >> MOST_KINDS : NONE;
        }

        int barredAt(int i) {
            return i >= 0 && i < size ? others[i] & ALL_KINDS : 0;
        }

        void addOther(int p) {
            if (size < PACK) {
                others[size] = p << MOST_KINDS;
                size++;
            }
        }

        /** One more card of a kind is known of a person: the first other that can be it, else the first of all. */
        void reveal(int p, int kind) {
            int any = NONE;
            int fit = NONE;
            for (int i = size - 1; i >= 0; i--) {
                if (others[i] >> MOST_KINDS == p) {
                    any = i;
                    fit = (others[i] >> kind & 1) == 0 ? i : fit;
                }
            }
            if (any == NONE) {
                return;
            }
            if (fit == NONE) {
                caught[p]++;
                fit = any;
            }
            for (int i = fit; i + 1 < size; i++) {
                others[i] = others[i + 1];
            }
            size--;
            sure[p * MOST_KINDS + kind]++;
        }

        void barAll(int p, int kind) {
            for (int i = 0; i < size; i++) {
                if (others[i] >> MOST_KINDS == p) {
                    others[i] |= 1 << kind;
                }
            }
        }

        /** A no: what was known of the kind was no truth any more, so these are others behind all. */
        void denies(int p, int kind) {
            int were = sureOf(p, kind);
            if (were > 0) {
                caught[p]++;
                setSure(p, kind, 0);
            }
            for (int i = 0; i < were; i++) {
                addOther(p);
            }
            barAll(p, kind);
        }
    }

    /** A table with its cards, whose turn it is, and what is known. */
    private static final class Game {
        int kinds = 0;
        int persons = 0;
        boolean again = false;
        int refill = 0;
        private final long[] names = new long[MOST_PERSONS];
        private final int[] hands = new int[MOST_PERSONS * MOST_KINDS];
        final int[] cards = new int[MOST_PERSONS];
        final int[] heap = new int[PACK];
        int heapFrom = 0;
        private int heapTo = 0;
        final int[] owner = new int[MOST_KINDS];
        final int[] askedTimes = new int[MOST_PERSONS];
        final int[] givenTo = new int[MOST_PERSONS];
        final int[] lastDrawn = new int[MOST_PERSONS];
        int turn = NONE;
        int askings = 0;
        int vain = 0;
        final Knowledge seen = new Knowledge();

        Game() {
            Arrays.fill(owner, NONE);
            Arrays.fill(lastDrawn, NONE);
        }

        void copyFrom(Game that) {
            kinds = that.kinds;
            persons = that.persons;
            again = that.again;
            refill = that.refill;
            System.arraycopy(that.names, 0, names, 0, names.length);
            System.arraycopy(that.hands, 0, hands, 0, hands.length);
            System.arraycopy(that.cards, 0, cards, 0, cards.length);
            System.arraycopy(that.heap, 0, heap, 0, heap.length);
            heapFrom = that.heapFrom;
            heapTo = that.heapTo;
            System.arraycopy(that.owner, 0, owner, 0, owner.length);
            System.arraycopy(that.askedTimes, 0, askedTimes, 0, askedTimes.length);
            System.arraycopy(that.givenTo, 0, givenTo, 0, givenTo.length);
            System.arraycopy(that.lastDrawn, 0, lastDrawn, 0, lastDrawn.length);
            turn = that.turn;
            askings = that.askings;
            vain = that.vain;
            seen.copyFrom(that.seen);
        }

        void clear() {
            kinds = 0;
            persons = 0;
            again = false;
            refill = 0;
            takeCardsAway();
        }

        private void takeCardsAway() {
            Arrays.fill(hands, 0);
            Arrays.fill(cards, 0);
            heapFrom = 0;
            heapTo = 0;
        }

        void addPerson(long name) {
            if (persons < MOST_PERSONS) {
                names[persons] = name;
                persons++;
            }
        }

        int find(long name) {
            for (int p = 0; p < persons; p++) {
                if (names[p] == name) {
                    return p;
                }
            }
            return NONE;
        }

        boolean hasPerson(int p) {
            return p >= 0 && p < persons;
        }

        boolean hasKind(int kind) {
            return kind >= 0 && kind < kinds;
        }

        int held(int p, int kind) {
            return hands[p * MOST_KINDS + kind];
        }

        void addToHand(int p, int kind, int number) {
            hands[p * MOST_KINDS + kind] += number;
            cards[p] += number;
        }

        void addToHeap(int kind) {
            if (heapTo < PACK) {
                heap[heapTo] = kind;
                heapTo++;
            }
        }

        int heapSize() {
            return heapTo - heapFrom;
        }

        int inHands(int kind) {
            int found = 0;
            for (int p = 0; p < persons; p++) {
                found += held(p, kind);
            }
            return found;
        }

        int inHeap(int kind) {
            int found = 0;
            for (int i = heapFrom; i < heapTo; i++) {
                if (heap[i] == kind) {
                    found++;
                }
            }
            return found;
        }

        int mostInOneHand(int kind) {
            int most = 0;
            for (int p = 0; p < persons; p++) {
                most = Math.max(most, held(p, kind));
            }
            return most;
        }

        int loose() {
            int found = heapSize();
            for (int p = 0; p < persons; p++) {
                found += cards[p];
            }
            return found;
        }

        int kindBits(int p) {
            int bits = 0;
            for (int kind = 0; kind < kinds; kind++) {
                if (held(p, kind) > 0) {
                    bits |= 1 << kind;
                }
            }
            return bits;
        }

        int booksOf(int p) {
            int found = 0;
            for (int kind = 0; kind < kinds; kind++) {
                if (owner[kind] == p) {
                    found++;
                }
            }
            return found;
        }

        int allBooks() {
            return kinds - booksOf(NONE);
        }

        boolean isAheadOfAll(int p) {
            int books = booksOf(p);
            for (int q = 0; q < persons; q++) {
                if (q != p && booksOf(q) >= books) {
                    return false;
                }
            }
            return true;
        }

        private int after(int p) {
            return p + 1 < persons ? p + 1 : 0;
        }

        /** The cards lie as told or dealt; all begins with nothing known. */
        void start() {
            Arrays.fill(owner, NONE);
            Arrays.fill(askedTimes, 0);
            Arrays.fill(givenTo, 0);
            Arrays.fill(lastDrawn, NONE);
            askings = 0;
            vain = 0;
            seen.clear();
            for (int p = 0; p < persons; p++) {
                for (int i = 0; i < cards[p]; i++) {
                    seen.addOther(p);
                }
            }
            for (int p = 0; p < persons; p++) {
                for (int kind = 0; kind < kinds; kind++) {
                    layDown(p, kind);
                }
            }
            settle(0);
        }

        boolean canDeal(int n) {
            return persons > 0 && kinds > 0 && n * persons <= FOUR * kinds;
        }

        void dealOut(int n, int seed) {
            takeCardsAway();
            for (int kind = 0; kind < kinds; kind++) {
                for (int i = 0; i < FOUR; i++) {
                    addToHeap(kind);
                }
            }
            int x = seed;
            for (int i = heapTo - 1; i >= 1; i--) {
                x = x * 1103515245 + 12345;
                int j = (x >>> 8) % (i + 1);
                int card = heap[i];
                heap[i] = heap[j];
                heap[j] = card;
            }
            for (int p = 0; p < persons; p++) {
                for (int i = 0; i < n && heapFrom < heapTo; i++) {
                    addToHand(p, heap[heapFrom], 1);
                    heapFrom++;
                }
            }
        }

        int whyNot(int p, int q, int kind) {
            if (turn == NONE) {
                return 1;
            }
            if (turn != p) {
                return 2;
            }
            if (held(p, kind) == 0) {
                return 3;
            }
            return p == q ? 4 : 0;
        }

        /** Does an asking that may be done, and writes it into the report: how many cards were given. */
        int doAsking(int p, int q, int kind, boolean lies, int[] report) {
            int has = held(q, kind);
            boolean gives = has > 0 && !lies;
            report[WHO] = p;
            report[WHOM] = q;
            report[WHAT] = kind;
            report[GIVEN] = gives ? has : 0;
            report[DRAWN] = NONE;
            report[LAID] = NONE;
            report[LIED] = has > 0 && lies ? 1 : 0;
            report[SURE] = seen.sureOf(q, kind) > 0 ? 2 : seen.mayBe(q, kind) > 0 ? 1 : 0;
            askings++;
            askedTimes[p]++;
            if (seen.sureOf(p, kind) == 0) {
                seen.reveal(p, kind);
            }
            int heir = gives ? give(p, q, kind, report) : sayNo(p, q, kind, report);
            if (vain >= persons) {
                turn = NONE;
            } else {
                settle(heir);
            }
            return report[GIVEN];
        }

        /** All go from q to p: whose turn is next. */
        private int give(int p, int q, int kind, int[] report) {
            int given = report[GIVEN];
            for (int i = seen.sureOf(q, kind); i < given; i++) {
                seen.reveal(q, kind);
            }
            seen.setSure(q, kind, 0);
            seen.barAll(q, kind);
            seen.setSure(p, kind, seen.sureOf(p, kind) + given);
            addToHand(q, kind, -given);
            addToHand(p, kind, given);
            givenTo[p] += given;
            vain = 0;
            if (layDown(p, kind)) {
                report[LAID] = kind;
            }
            return p;
        }

        /** q says no, p draws if there is a card: whose turn is next. */
        private int sayNo(int p, int q, int kind, int[] report) {
            seen.denies(q, kind);
            if (heapSize() == 0) {
                vain++;
                return after(p);
            }
            vain = 0;
            int card = heap[heapFrom];
            boolean shown = again && card == kind;
            report[DRAWN] = card;
            if (drawCard(p, shown)) {
                report[LAID] = card;
            }
            return shown ? p : after(p);
        }

        /** The first card of the heap comes to a hand: whether it makes a book. */
        private boolean drawCard(int p, boolean shown) {
            int card = heap[heapFrom];
            heapFrom++;
            addToHand(p, card, 1);
            lastDrawn[p] = card;
            if (shown) {
                seen.setSure(p, card, seen.sureOf(p, card) + 1);
            } else {
                seen.addOther(p);
            }
            return layDown(p, card);
        }

        private boolean layDown(int p, int kind) {
            if (held(p, kind) < FOUR) {
                return false;
            }
            for (int i = seen.sureOf(p, kind); i < FOUR; i++) {
                seen.reveal(p, kind);
            }
            seen.setSure(p, kind, 0);
            addToHand(p, kind, -FOUR);
            owner[kind] = p;
            return true;
        }

        /** The turn is of the first one, round from this one, who has a card or can draw some. */
        private void settle(int from) {
            turn = NONE;
            int p = from;
            for (int i = 0; i < persons && turn == NONE; i++) {
                takeRefill(p);
                if (cards[p] > 0) {
                    turn = p;
                }
                p = after(p);
            }
        }

        private void takeRefill(int p) {
            // A round draws a card at least, so a pack's number of rounds is more than enough.
            for (int round = 0; round < PACK && cards[p] == 0 && refill > 0 && heapFrom < heapTo; round++) {
                for (int i = 0; i < refill && heapFrom < heapTo; i++) {
                    drawCard(p, false);
                }
            }
        }

        /** Whom a person would ask for what by a bent: 100 times the person and the kind. */
        int choice(int p, int rule) {
            if (persons < 2 || cards[p] == 0) {
                return NONE;
            }
            if (rule == 2) {
                return HUNDRED * richest(p) + mostHeld(p);
            }
            int sureOne = rule == 1 ? firstSure(p) : NONE;
            if (sureOne != NONE) {
                return sureOne;
            }
            int drawn = rule == 3 ? lastDrawn[p] : NONE;
            boolean hasDrawn = hasKind(drawn) && held(p, drawn) > 0;
            return HUNDRED * nextWithCard(p) + (hasDrawn ? drawn : leastKind(p));
        }

        private int leastKind(int p) {
            for (int kind = 0; kind < kinds; kind++) {
                if (held(p, kind) > 0) {
                    return kind;
                }
            }
            return 0;
        }

        private int nextWithCard(int p) {
            int q = after(p);
            for (int i = 1; i < persons; i++) {
                if (cards[q] > 0) {
                    return q;
                }
                q = after(q);
            }
            return after(p);
        }

        private int firstSure(int p) {
            for (int q = 0; q < persons; q++) {
                for (int kind = 0; kind < kinds && q != p; kind++) {
                    if (seen.sureOf(q, kind) > 0 && held(p, kind) > 0) {
                        return HUNDRED * q + kind;
                    }
                }
            }
            return NONE;
        }

        private int mostHeld(int p) {
            int best = 0;
            for (int kind = 1; kind < kinds; kind++) {
                if (held(p, kind) > held(p, best)) {
                    best = kind;
                }
            }
            return best;
        }

        private int richest(int p) {
            int best = NONE;
            for (int q = 0; q < persons; q++) {
                if (q != p && (best == NONE || cards[q] > cards[best])) {
                    best = q;
                }
            }
            return best == NONE ? after(p) : best;
        }
    }

    /** Reads a table into a game that is not yet begun. */
    private static final class TableText {
        private final Reader reader;
        private final int[] inPlay = new int[MOST_KINDS];
        private boolean refillTold = false;
        int lines = 0;

        TableText(Reader reader) {
            this.reader = reader;
        }

        boolean read(byte[] text, int size, Game game) {
            game.clear();
            Arrays.fill(inPlay, 0);
            refillTold = false;
            lines = 0;
            reader.begin(text, size, TABLE_BYTES);
            // A line has two bytes at least, so there can't be so many.
            while (lines < TABLE_BYTES && !reader.isAt(Reader.END)) {
                if (!readLine(game) || !reader.pass(';')) {
                    return false;
                }
                lines++;
            }
            return reader.isAt(Reader.END) || reader.fail(1);
        }

        private boolean readLine(Game game) {
            switch (reader.token) {
                case Reader.KINDS:
                    return readKinds(game);
                case Reader.PERSON:
                    return readPerson(game);
                case Reader.HAND:
                    return readHand(game);
                case Reader.HEAP:
                    return readHeap(game);
                case Reader.AGAIN:
                    return readAgain(game);
                case Reader.REFILL:
                    return readRefill(game);
                default:
                    return reader.fail(1);
            }
        }

        private boolean readKinds(Game game) {
            if (game.kinds > 0) {
                return reader.fail(3);
            }
            reader.advance();
            if (!reader.isNumber(2, MOST_KINDS)) {
                return false;
            }
            game.kinds = reader.number;
            reader.advance();
            return true;
        }

        private boolean readPerson(Game game) {
            if (game.persons == MOST_PERSONS) {
                return reader.fail(4);
            }
            reader.advance();
            if (!reader.isAt(Reader.NAME)) {
                return reader.fail(1);
            }
            if (game.find(reader.word) != NONE) {
                return reader.fail(3);
            }
            game.addPerson(reader.word);
            reader.advance();
            return true;
        }

        private boolean readHand(Game game) {
            reader.advance();
            if (!reader.isPerson(game)) {
                return false;
            }
            int p = game.find(reader.word);
            reader.advance();
            if (!reader.isNumber(0, game.kinds - 1)) {
                return false;
            }
            int kind = reader.number;
            if (game.held(p, kind) > 0) {
                return reader.fail(3);
            }
            reader.advance();
            if (!reader.isNumber(1, FOUR)) {
                return false;
            }
            if (inPlay[kind] + reader.number > FOUR) {
                return reader.fail(5);
            }
            inPlay[kind] += reader.number;
            game.addToHand(p, kind, reader.number);
            reader.advance();
            return true;
        }

        private boolean readHeap(Game game) {
            reader.advance();
            // The pack bounds the cards; the fault of a fifth one comes ahead of this loop's end.
            for (int i = 0; i <= PACK && (i == 0 || reader.isAt(Reader.NUMBER)); i++) {
                if (!reader.isNumber(0, game.kinds - 1)) {
                    return false;
                }
                int kind = reader.number;
                if (inPlay[kind] == FOUR) {
                    return reader.fail(5);
                }
                inPlay[kind]++;
                game.addToHeap(kind);
                reader.advance();
            }
            return true;
        }

        private boolean readAgain(Game game) {
            if (game.again) {
                return reader.fail(3);
            }
            game.again = true;
            reader.advance();
            return true;
        }

        private boolean readRefill(Game game) {
            if (refillTold) {
                return reader.fail(3);
            }
            refillTold = true;
            reader.advance();
            if (!reader.isNumber(0, 9)) {
                return false;
            }
            game.refill = reader.number;
            reader.advance();
            return true;
        }
    }

    /** Reads an evening into rows of four numbers: who, whom, the kind, how many were given. */
    private static final class EveningText {
        private final Reader reader;
        private final int[] rows = new int[MOST_LINES * 4];
        int lines = 0;

        EveningText(Reader reader) {
            this.reader = reader;
        }

        int askerOf(int line) {
            return rows[line * 4];
        }

        int otherOf(int line) {
            return rows[line * 4 + 1];
        }

        int kindOf(int line) {
            return rows[line * 4 + 2];
        }

        int givenOf(int line) {
            return rows[line * 4 + 3];
        }

        boolean read(byte[] text, int size, Game game) {
            lines = 0;
            reader.begin(text, size, EVENING_BYTES);
            while (lines <= MOST_LINES && !reader.isAt(Reader.END)) {
                if (!readLine(game) || !reader.pass(';')) {
                    return false;
                }
                lines++;
            }
            return true;
        }

        private boolean readLine(Game game) {
            if (!reader.isPerson(game)) {
                return false;
            }
            if (lines >= MOST_LINES) {
                return reader.fail(4);
            }
            rows[lines * 4] = game.find(reader.word);
            reader.advance();
            if (!reader.pass(Reader.ASKS) || !reader.isPerson(game)) {
                return false;
            }
            rows[lines * 4 + 1] = game.find(reader.word);
            reader.advance();
            if (!reader.isNumber(0, game.kinds - 1)) {
                return false;
            }
            rows[lines * 4 + 2] = reader.number;
            reader.advance();
            return readAnswer();
        }

        private boolean readAnswer() {
            rows[lines * 4 + 3] = 0;
            if (reader.isAt(Reader.NO)) {
                reader.advance();
                return true;
            }
            if (!reader.pass(Reader.GIVES) || !reader.isNumber(1, FOUR)) {
                return false;
            }
            rows[lines * 4 + 3] = reader.number;
            reader.advance();
            return true;
        }
    }

    /** A sentence with its parts ahead of what joins them, so that one row and a few bits can tell it. */
    private static final class Sentence {
        private static final int MOST_CODES = 40;

        private final int[] codes = new int[MOST_CODES];
        int size = 0;

        void clear() {
            size = 0;
        }

        void copyFrom(Sentence that) {
            System.arraycopy(that.codes, 0, codes, 0, MOST_CODES);
            size = that.size;
        }

        void add(int word, int sign, int number) {
            if (size < MOST_CODES) {
                codes[size] = word << 20 | sign << 10 | number;
                size++;
            }
        }

        boolean holdsFor(Game game, int kind) {
            // The answers still to be joined, the latest in the lowest bit: 20 at most.
            int answers = 0;
            for (int i = 0; i < size; i++) {
                int word = codes[i] >> 20;
                int top = answers & 1;
                if (word == Reader.NOT) {
                    answers ^= 1;
                } else if (word == Reader.AND) {
                    answers = top == 0 ? answers >> 1 & ~1 : answers >> 1;
                } else if (word == Reader.OR) {
                    answers = answers >> 1 | top;
                } else {
                    answers = answers << 1 | (isSo(codes[i], game, kind) ? 1 : 0);
                }
            }
            return (answers & 1) == 1;
        }

        private static boolean isSo(int code, Game game, int kind) {
            int number = code & 1023;
            int sign = code >> 10 & 1023;
            switch (code >> 20) {
                case Reader.BOOK:
                    return game.owner[kind] != NONE;
                case Reader.KNOWN:
                    return game.hasPerson(number) && game.seen.sureOf(number, kind) > 0;
                case Reader.HELD:
                    return game.hasPerson(number) && game.held(number, kind) > 0;
                case Reader.HANDS:
                    return compares(game.inHands(kind), sign, number);
                case Reader.HEAPED:
                    return compares(game.inHeap(kind), sign, number);
                case Reader.MOST:
                    return compares(game.mostInOneHand(kind), sign, number);
                default:
                    return compares(kind, sign, number);
            }
        }

        private static boolean compares(int measure, int sign, int number) {
            if (sign == '<') {
                return measure < number;
            }
            return sign == '=' ? measure == number : measure > number;
        }
    }

    /** Reads a sentence. */
    private static final class SentenceText {
        private static final int MOST_ONES = 20;
        private static final int DEEPEST = 8;

        private final Reader reader;
        final Sentence made = new Sentence();
        int ones = 0;

        SentenceText(Reader reader) {
            this.reader = reader;
        }

        boolean read(byte[] text, int size, Game game) {
            made.clear();
            ones = 0;
            reader.begin(text, size, SENTENCE_BYTES);
            if (!readCond(game, 1)) {
                return false;
            }
            return reader.isAt(Reader.END) || reader.fail(1);
        }

        private boolean readCond(Game game, int depth) {
            if (!readAll(game, depth)) {
                return false;
            }
            // The bound on all that there may be bounds those in a row, too.
            for (int i = 0; i < MOST_ONES && reader.isAt(Reader.OR); i++) {
                reader.advance();
                if (!readAll(game, depth)) {
                    return false;
                }
                made.add(Reader.OR, 0, 0);
            }
            return true;
        }

        private boolean readAll(Game game, int depth) {
            if (!readOne(game, depth)) {
                return false;
            }
            for (int i = 0; i < MOST_ONES && reader.isAt(Reader.AND); i++) {
                reader.advance();
                if (!readOne(game, depth)) {
                    return false;
                }
                made.add(Reader.AND, 0, 0);
            }
            return true;
        }

        private boolean readOne(Game game, int depth) {
            if (!beginsOne()) {
                return reader.fail(1);
            }
            if (ones >= MOST_ONES || depth > DEEPEST) {
                return reader.fail(4);
            }
            ones++;
            int word = reader.token;
            reader.advance();
            if (word == '(') {
                return readCond(game, depth + 1) && reader.pass(')');
            }
            if (word == Reader.KNOWN || word == Reader.HELD) {
                return readPerson(game, word);
            }
            if (word != Reader.NOT && word != Reader.BOOK) {
                return readMeasure(word);
            }
            if (word == Reader.NOT && !readOne(game, depth + 1)) {
                return false;
            }
            made.add(word, 0, 0);
            return true;
        }

        private boolean beginsOne() {
            int token = reader.token;
            return token == '(' || token >= Reader.NOT && token <= Reader.PLACE;
        }

        private boolean readPerson(Game game, int word) {
            if (!reader.isPerson(game)) {
                return false;
            }
            made.add(word, 0, game.find(reader.word));
            reader.advance();
            return true;
        }

        private boolean readMeasure(int word) {
            int sign = reader.token;
            if (sign != '<' && sign != '=' && sign != '>') {
                return reader.fail(1);
            }
            reader.advance();
            if (!reader.isAt(Reader.NUMBER)) {
                return reader.fail(1);
            }
            made.add(word, sign, reader.number);
            reader.advance();
            return true;
        }
    }

    /** Counts the ways in which what an onlooker does not see can lie. */
    private static final class Odds {
        private static final int MOST_SLOTS = 12;
        private static final int MOST_UNSEEN = 6;
        private static final int MOST_WAYS = 15625;

        private final int[] slotOwner = new int[MOST_SLOTS];
        private final int[] slotBarred = new int[MOST_SLOTS];
        private int slots = 0;
        private final int[] kindAt = new int[MOST_UNSEEN];
        private final int[] rest = new int[MOST_UNSEEN];
        private int unseen = 0;
        private final int[] used = new int[MOST_UNSEEN];
        private final int[] step = new int[MOST_UNSEEN + 1];
        private final long[] ways = new long[MOST_WAYS];
        long allWays = 0;

        /** Takes in what an onlooker sees: false, if that is too little, or nothing can be so. */
        boolean look(Game game, int o) {
            allWays = 0;
            if (!takeSlots(game, o) || !takeKinds(game, o)) {
                return false;
            }
            allWays = countWays(NONE, 0);
            return allWays > 0;
        }

        private boolean takeSlots(Game game, int o) {
            slots = 0;
            for (int i = 0; i < game.seen.countOthers(); i++) {
                int p = game.seen.ownerAt(i);
                if (p != o) {
                    if (slots == MOST_SLOTS) {
                        return false;
                    }
                    slotOwner[slots] = p;
                    slotBarred[slots] = game.seen.barredAt(i);
                    slots++;
                }
            }
            return true;
        }

        private boolean takeKinds(Game game, int o) {
            unseen = 0;
            for (int kind = 0; kind < game.kinds; kind++) {
                int left = game.inHands(kind) + game.inHeap(kind) - game.held(o, kind);
                for (int p = 0; p < game.persons; p++) {
                    left -= p == o ? 0 : game.seen.sureOf(p, kind);
                }
                if (left > 0) {
                    if (unseen == MOST_UNSEEN) {
                        return false;
                    }
                    kindAt[unseen] = kind;
                    rest[unseen] = left;
                    unseen++;
                }
            }
            return true;
        }

        /**
         * The ways to fill all slots, each card by itself, no slot of a person with a kind (person NONE: all ways).
         * A state tells how many of each kind are used up; that many slots are full, so later states follow.
         */
        private long countWays(int person, int kind) {
            int states = layOut();
            Arrays.fill(ways, 0, states, 0L);
            ways[0] = 1;
            long found = 0;
            int full = 0;
            for (int s = 0; s < states; s++) {
                if (full == slots) {
                    found += ways[s];
                } else if (full < slots && ways[s] > 0) {
                    boolean strict = slotOwner[full] == person;
                    spread(s, slotBarred[full] | (strict ? 1 << kind : 0));
                }
                full += nextState();
            }
            return found;
        }

        private int layOut() {
            step[0] = 1;
            for (int i = 0; i < unseen; i++) {
                used[i] = 0;
                step[i + 1] = step[i] * (rest[i] + 1);
            }
            return Math.min(step[unseen], MOST_WAYS);
        }

        private void spread(int s, int barred) {
            for (int i = 0; i < unseen; i++) {
                int left = rest[i] - used[i];
                int to = s + step[i];
                if (left > 0 && (barred >> kindAt[i] & 1) == 0 && to < MOST_WAYS) {
                    ways[to] += ways[s] * left;
                }
            }
        }

        /** Goes on to the next state: how many more slots are full there. */
        private int nextState() {
            int more = 0;
            for (int i = 0; i < unseen; i++) {
                if (used[i] < rest[i]) {
                    used[i]++;
                    return more + 1;
                }
                more -= used[i];
                used[i] = 0;
            }
            return more;
        }

        private int indexOfKind(int kind) {
            for (int i = 0; i < unseen; i++) {
                if (kindAt[i] == kind) {
                    return i;
                }
            }
            return NONE;
        }

        long waysWithSome(Game game, int q, int kind) {
            if (game.seen.sureOf(q, kind) > 0) {
                return allWays;
            }
            if (indexOfKind(kind) == NONE || game.seen.mayBe(q, kind) == 0) {
                return 0;
            }
            return allWays - countWays(q, kind);
        }

        /** The ways, times the cards of the heap, in which its first card is of a kind. */
        long waysDrawn(int kind) {
            int i = indexOfKind(kind);
            if (i == NONE) {
                return 0;
            }
            long cards = rest[i];
            rest[i]--;
            long found = cards * countWays(NONE, 0);
            rest[i]++;
            return found;
        }

        int likeliest(Game game, int o) {
            int best = NONE;
            long most = NONE;
            for (int q = 0; q < game.persons; q++) {
                for (int kind = 0; kind < game.kinds && q != o; kind++) {
                    long found = game.held(o, kind) > 0 ? waysWithSome(game, q, kind) : NONE;
                    if (found > most) {
                        most = found;
                        best = HUNDRED * q + kind;
                    }
                }
            }
            return best;
        }
    }

    /** Plays open hands of two to the end, both as is best for themselves. */
    private static final class Duel {
        static final int KINDS = 3;
        static final int HEAP = 4;
        private static final int STATES = 5 * 5 * 5 * 5 * 4;
        private static final int UNKNOWN = 1000;
        private static final int DEEPEST = 40;

        private final int[] memo = new int[STATES];
        private final int[] inPlay = new int[KINDS];
        private final int[] heap = new int[HEAP];
        private int heapSize = 0;
        private int kinds = 0;
        private boolean again = false;
        private int refill = 0;
        // The state that is being worked on.
        private final int[] hands = new int[2 * KINDS];
        private int drawn = 0;
        private int turn = 0;
        private int vain = 0;
        private int gained = 0;
        private int bestFound = NONE;

        int difference(Game game) {
            int begin = take(game);
            int now = game.booksOf(0) - game.booksOf(1);
            int later = value(begin, 0);
            return game.turn == 0 ? now + later : -now - later;
        }

        int bestKind(Game game) {
            int begin = take(game);
            value(begin, 0);
            return bestFound;
        }

        private int take(Game game) {
            Arrays.fill(memo, UNKNOWN);
            kinds = Math.min(game.kinds, KINDS);
            again = game.again;
            refill = game.refill;
            heapSize = Math.min(game.heapSize(), HEAP);
            for (int i = 0; i < heapSize; i++) {
                heap[i] = game.heap[game.heapFrom + i];
            }
            Arrays.fill(hands, 0);
            for (int kind = 0; kind < kinds; kind++) {
                inPlay[kind] = game.inHands(kind) + game.inHeap(kind);
                hands[kind] = game.held(0, kind);
                hands[KINDS + kind] = game.held(1, kind);
            }
            drawn = 0;
            turn = game.turn;
            vain = game.vain;
            return pack();
        }

        // Of each kind one hand's number tells the other's, as the heap tells how many lie in both.
        private int pack() {
            int state = 0;
            for (int kind = 0; kind < KINDS; kind++) {
                boolean none = hands[kind] + hands[KINDS + kind] == 0;
                state = state * 5 + (none ? FOUR : hands[kind]);
            }
            return ((state * 5 + drawn) * 2 + turn) * 2 + vain;
        }

        private void unpack(int state) {
            vain = state & 1;
            turn = state >> 1 & 1;
            int rest = state >> 2;
            drawn = rest % 5;
            rest /= 5;
            for (int kind = KINDS - 1; kind >= 0; kind--) {
                int mine = rest % 5;
                rest /= 5;
                hands[kind] = mine == FOUR ? 0 : mine;
                hands[KINDS + kind] = mine == FOUR ? 0 : inPlay[kind] - leftInHeap(kind) - mine;
            }
        }

        private int leftInHeap(int kind) {
            int found = 0;
            for (int i = drawn; i < heapSize; i++) {
                if (heap[i] == kind) {
                    found++;
                }
            }
            return found;
        }

        /** How many more books person 0 makes than person 1 from a state on. */
        private int value(int state, int depth) {
            if (state < 0 || state >= STATES || depth > DEEPEST) {
                return 0;
            }
            if (memo[state] != UNKNOWN) {
                return memo[state];
            }
            int mover = state >> 1 & 1;
            int best = 0;
            int bestKind = NONE;
            for (int kind = 0; kind < kinds; kind++) {
                unpack(state);
                if (hands[mover * KINDS + kind] > 0) {
                    boolean goesOn = move(mover, kind);
                    int won = gained;
                    int all = won + (goesOn ? value(pack(), depth + 1) : 0);
                    if (bestKind == NONE || (mover == 0 ? all > best : all < best)) {
                        best = all;
                        bestKind = kind;
                    }
                }
            }
            memo[state] = best;
            bestFound = bestKind;
            return best;
        }

        /** Does an asking on the state that is worked on: whether it is not over then. */
        private boolean move(int p, int kind) {
            gained = 0;
            int q = 1 - p;
            int has = hands[q * KINDS + kind];
            int heir = q;
            if (has > 0) {
                hands[q * KINDS + kind] = 0;
                hands[p * KINDS + kind] += has;
                vain = 0;
                heir = p;
                layDown(p, kind);
            } else if (drawn < heapSize) {
                vain = 0;
                heir = again && heap[drawn] == kind ? p : q;
                drawCard(p);
            } else {
                vain++;
            }
            return vain < 2 && (settle(heir) || settle(1 - heir));
        }

        private void drawCard(int p) {
            int card = heap[drawn];
            drawn++;
            hands[p * KINDS + card]++;
            layDown(p, card);
        }

        private void layDown(int p, int kind) {
            if (hands[p * KINDS + kind] == FOUR) {
                hands[p * KINDS + kind] = 0;
                gained += p == 0 ? 1 : -1;
            }
        }

        private boolean settle(int p) {
            turn = p;
            // Four cards can't be drawn in more rounds than four.
            for (int round = 0; round < HEAP && cardsOf(p) == 0; round++) {
                for (int i = 0; i < refill && drawn < heapSize; i++) {
                    drawCard(p);
                }
            }
            return cardsOf(p) > 0;
        }

        private int cardsOf(int p) {
            int found = 0;
            for (int kind = 0; kind < KINDS; kind++) {
                found += hands[p * KINDS + kind];
            }
            return found;
        }
    }

    /** What can be undone: the games as they were, the latest eight. */
    private static final class Past {
        private static final int MOST = 8;

        private final Game[] kept = new Game[MOST];
        private int top = 0;
        int size = 0;

        void clear() {
            size = 0;
        }

        void keep(Game game) {
            if (kept[top] == null) {
                kept[top] = new Game();
            }
            kept[top].copyFrom(game);
            top = top + 1 < MOST ? top + 1 : 0;
            size = Math.min(size + 1, MOST);
        }

        boolean takeBack(Game game) {
            int last = top > 0 ? top - 1 : MOST - 1;
            if (size == 0 || kept[last] == null) {
                return false;
            }
            game.copyFrom(kept[last]);
            top = last;
            size--;
            return true;
        }
    }
}
