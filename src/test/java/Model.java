import java.math.BigInteger;
import java.util.ArrayDeque;
import java.util.ArrayList;
import java.util.Arrays;
import java.util.Collections;
import java.util.HashMap;
import java.util.HashSet;
import java.util.List;
import java.util.Map;
import java.util.NoSuchElementException;
import java.util.Set;
import java.util.regex.Matcher;
import java.util.regex.Pattern;

/** The document told a second time with lists and copies, slow and plain, to hold the class against. */
final class Model {
    static final Set<String> RESERVED = new HashSet<>(Arrays.asList("kinds", "person", "hand", "heap", "again",
            "refill", "asks", "gives", "no", "or", "and", "not", "book", "known", "held", "hands", "heaped", "most",
            "place"));

    static final class Fault extends Exception {
        final int place;
        final int kind;

        Fault(int place, int kind) {
            this.place = place;
            this.kind = kind;
        }
    }

    /** A card as the others see it: a known kind, or the kinds that it can't be. */
    static final class Back {
        final Set<Integer> cannot = new HashSet<>();

        Back copy() {
            Back b = new Back();
            b.cannot.addAll(cannot);
            return b;
        }
    }

    static final class Person {
        String name = "";
        List<Integer> hand = new ArrayList<>();
        List<Integer> known = new ArrayList<>();
        List<Back> others = new ArrayList<>();
        List<Integer> books = new ArrayList<>();
        int caught;
        int askings;
        int got;
        int drewLast = -1;

        Person copy() {
            Person c = new Person();
            c.name = name;
            c.hand.addAll(hand);
            c.known.addAll(known);
            for (Back b : others) {
                c.others.add(b.copy());
            }
            c.books.addAll(books);
            c.caught = caught;
            c.askings = askings;
            c.got = got;
            c.drewLast = drewLast;
            return c;
        }

        int has(int kind) {
            return Collections.frequency(hand, kind);
        }

        int knownOf(int kind) {
            return Collections.frequency(known, kind);
        }

        int mayBe(int kind) {
            int n = 0;
            for (Back b : others) {
                n += b.cannot.contains(kind) ? 0 : 1;
            }
            return n;
        }

        void show(int kind) {
            if (others.isEmpty()) {
                return;
            }
            Back found = null;
            for (Back b : others) {
                if (!b.cannot.contains(kind)) {
                    found = b;
                    break;
                }
            }
            if (found == null) {
                caught++;
                found = others.get(0);
            }
            others.remove(found);
            known.add(kind);
        }

        void cannotBe(int kind) {
            for (Back b : others) {
                b.cannot.add(kind);
            }
        }
    }

    static final class State {
        int kinds;
        boolean again;
        int refill;
        List<Person> people = new ArrayList<>();
        ArrayDeque<Integer> heap = new ArrayDeque<>();
        int turn = -1;
        int askings;
        int vain;

        State copy() {
            State c = new State();
            c.kinds = kinds;
            c.again = again;
            c.refill = refill;
            for (Person p : people) {
                c.people.add(p.copy());
            }
            c.heap.addAll(heap);
            c.turn = turn;
            c.askings = askings;
            c.vain = vain;
            return c;
        }

        int find(String name) {
            for (int i = 0; i < people.size(); i++) {
                if (people.get(i).name.equals(name)) {
                    return i;
                }
            }
            return -1;
        }

        void begin() {
            askings = 0;
            vain = 0;
            for (Person p : people) {
                p.known.clear();
                p.others.clear();
                p.books.clear();
                p.caught = 0;
                p.askings = 0;
                p.got = 0;
                p.drewLast = -1;
                for (int i = 0; i < p.hand.size(); i++) {
                    p.others.add(new Back());
                }
            }
            for (Person p : people) {
                for (int k = 0; k < kinds; k++) {
                    layDown(p, k);
                }
            }
            turnTo(0);
        }

        boolean layDown(Person p, int kind) {
            if (p.has(kind) != 4) {
                return false;
            }
            while (p.knownOf(kind) < 4) {
                p.show(kind);
            }
            p.known.removeAll(Collections.singleton(kind));
            p.hand.removeAll(Collections.singleton(kind));
            p.books.add(kind);
            return true;
        }

        void turnTo(int from) {
            for (int i = 0; i < people.size(); i++) {
                int who = (from + i) % people.size();
                Person p = people.get(who);
                while (p.hand.isEmpty() && refill > 0 && !heap.isEmpty()) {
                    for (int j = 0; j < refill && !heap.isEmpty(); j++) {
                        int card = heap.poll();
                        p.hand.add(card);
                        p.drewLast = card;
                        p.others.add(new Back());
                        layDown(p, card);
                    }
                }
                if (!p.hand.isEmpty()) {
                    turn = who;
                    return;
                }
            }
            turn = -1;
        }

        int whyNot(int p, int q, int kind) {
            return turn < 0 ? 1 : turn != p ? 2 : people.get(p).has(kind) == 0 ? 3 : p == q ? 4 : 0;
        }

        int[] asking(int a, int b, int kind, boolean lies) {
            Person p = people.get(a);
            Person q = people.get(b);
            int has = q.has(kind);
            boolean lie = lies && has > 0;
            int knew = q.knownOf(kind) > 0 ? 2 : q.mayBe(kind) > 0 ? 1 : 0;
            int drawn = -1;
            int laid = -1;
            int given = 0;
            int heir = (a + 1) % people.size();
            askings++;
            p.askings++;
            if (p.knownOf(kind) == 0) {
                p.show(kind);
            }
            if (has > 0 && !lie) {
                given = has;
                while (q.knownOf(kind) < has) {
                    q.show(kind);
                }
                q.known.removeAll(Collections.singleton(kind));
                q.hand.removeAll(Collections.singleton(kind));
                q.cannotBe(kind);
                for (int i = 0; i < has; i++) {
                    p.hand.add(kind);
                    p.known.add(kind);
                }
                p.got += has;
                vain = 0;
                heir = a;
                if (layDown(p, kind)) {
                    laid = kind;
                }
            } else {
                int were = q.knownOf(kind);
                if (were > 0) {
                    q.caught++;
                    q.known.removeAll(Collections.singleton(kind));
                    for (int i = 0; i < were; i++) {
                        q.others.add(new Back());
                    }
                }
                q.cannotBe(kind);
                if (heap.isEmpty()) {
                    vain++;
                } else {
                    vain = 0;
                    drawn = heap.poll();
                    p.hand.add(drawn);
                    p.drewLast = drawn;
                    if (again && drawn == kind) {
                        p.known.add(drawn);
                        heir = a;
                    } else {
                        p.others.add(new Back());
                    }
                    if (layDown(p, drawn)) {
                        laid = drawn;
                    }
                }
            }
            if (vain == people.size()) {
                turn = -1;
            } else {
                turnTo(heir);
            }
            return new int[] {a, b, kind, given, drawn, laid, lie ? 1 : 0, knew};
        }

        int bent(int a, int rule) {
            Person p = people.get(a);
            int n = people.size();
            if (n < 2 || p.hand.isEmpty()) {
                return -1;
            }
            if (rule == 1) {
                for (int b = 0; b < n; b++) {
                    for (int k = 0; k < kinds; k++) {
                        if (b != a && people.get(b).knownOf(k) > 0 && p.has(k) > 0) {
                            return 100 * b + k;
                        }
                    }
                }
            }
            if (rule == 2) {
                int kind = -1;
                for (int k = kinds - 1; k >= 0; k--) {
                    if (kind < 0 || p.has(k) >= p.has(kind)) {
                        kind = k;
                    }
                }
                int who = -1;
                for (int b = n - 1; b >= 0; b--) {
                    if (b != a && (who < 0 || people.get(b).hand.size() >= people.get(who).hand.size())) {
                        who = b;
                    }
                }
                return 100 * who + kind;
            }
            int kind = Collections.min(p.hand);
            if (rule == 3 && p.drewLast >= 0 && p.has(p.drewLast) > 0) {
                kind = p.drewLast;
            }
            int who = (a + 1) % n;
            for (int i = n - 1; i >= 1; i--) {
                int b = (a + i) % n;
                if (!people.get(b).hand.isEmpty()) {
                    who = b;
                }
            }
            return 100 * who + kind;
        }

        boolean deal(int n, int seed) {
            if (n < 1 || people.isEmpty() || kinds == 0 || n * people.size() > 4 * kinds) {
                return false;
            }
            List<Integer> pack = new ArrayList<>();
            for (int i = 0; i < 4 * kinds; i++) {
                pack.add(i / 4);
            }
            int x = seed;
            for (int i = pack.size() - 1; i > 0; i--) {
                x = x * 1103515245 + 12345;
                Collections.swap(pack, i, (x >>> 8) % (i + 1));
            }
            for (Person p : people) {
                p.hand.clear();
                for (int i = 0; i < n; i++) {
                    p.hand.add(pack.remove(0));
                }
            }
            heap.clear();
            heap.addAll(pack);
            begin();
            return true;
        }

        int books() {
            int n = 0;
            for (Person p : people) {
                n += p.books.size();
            }
            return n;
        }

        /** What person 0 has more in the end than person 1. */
        int playedOut(Map<String, Integer> memo) {
            if (turn < 0) {
                return people.get(0).books.size() - people.get(1).books.size();
            }
            StringBuilder key = new StringBuilder();
            for (Person p : people) {
                List<Integer> sorted = new ArrayList<>(p.hand);
                Collections.sort(sorted);
                key.append(sorted).append(p.books.size());
            }
            key.append(heap.size()).append('/').append(turn).append('/').append(vain);
            Integer known = memo.get(key.toString());
            if (known != null) {
                return known;
            }
            Integer best = null;
            for (int k = 0; k < kinds; k++) {
                if (people.get(turn).has(k) > 0) {
                    State after = copy();
                    after.asking(turn, 1 - turn, k, false);
                    int v = after.playedOut(memo);
                    if (best == null || (turn == 0 ? v > best : v < best)) {
                        best = v;
                    }
                }
            }
            memo.put(key.toString(), best);
            return best;
        }
    }

    // ---- texts

    static final class Lexed {
        final List<String> tokens = new ArrayList<>();
        final List<Integer> places = new ArrayList<>();
        int at = 0;

        Lexed(String text, int most) {
            Matcher m = Pattern.compile("[a-z0-9]+|[^ \n]").matcher(text);
            while (m.find()) {
                if (text.length() > most && m.start() >= most) {
                    break;
                }
                tokens.add(m.group());
                places.add(m.start());
            }
            tokens.add(text.length() > most ? "?" : "");
            places.add(Math.min(text.length(), most));
        }

        String peek() {
            return tokens.get(at);
        }

        Fault fault(int kind) {
            return new Fault(places.get(at), kind);
        }

        boolean isWord() {
            return peek().matches("[a-z]{1,7}");
        }

        boolean isName() {
            return isWord() && !RESERVED.contains(peek());
        }

        boolean isNumber() {
            return peek().matches("[0-9]{1,3}");
        }

        void take(String token) throws Fault {
            if (!peek().equals(token)) {
                throw fault(1);
            }
            at++;
        }

        int person(State s) throws Fault {
            if (!isName()) {
                throw fault(1);
            }
            if (s.find(peek()) < 0) {
                throw fault(3);
            }
            return s.find(tokens.get(at++));
        }

        int number(int least, int most) throws Fault {
            if (!isNumber()) {
                throw fault(1);
            }
            int n = Integer.parseInt(peek());
            if (n < least || n > most) {
                throw fault(2);
            }
            at++;
            return n;
        }

        Fault before(int kind) {
            return new Fault(places.get(at - 1), kind);
        }
    }

    static int parseTable(String text, State into) throws Fault {
        Lexed x = new Lexed(text, 900);
        Set<String> once = new HashSet<>();
        int[] inPlay = new int[13];
        int lines = 0;
        while (!x.peek().isEmpty()) {
            String word = x.peek();
            if (!Arrays.asList("kinds", "person", "hand", "heap", "again", "refill").contains(word)) {
                throw x.fault(1);
            }
            if (Arrays.asList("kinds", "again", "refill").contains(word) && !once.add(word)) {
                throw x.fault(3);
            }
            if (word.equals("person") && into.people.size() == 6) {
                throw x.fault(4);
            }
            x.at++;
            if (word.equals("kinds")) {
                into.kinds = x.number(2, 13);
            } else if (word.equals("again")) {
                into.again = true;
            } else if (word.equals("refill")) {
                into.refill = x.number(0, 9);
            } else if (word.equals("person")) {
                if (!x.isName()) {
                    throw x.fault(1);
                }
                if (into.find(x.peek()) >= 0) {
                    throw x.fault(3);
                }
                Person p = new Person();
                p.name = x.peek();
                into.people.add(p);
                x.at++;
            } else if (word.equals("hand")) {
                Person p = into.people.get(x.person(into));
                int kind = x.number(0, into.kinds - 1);
                if (p.has(kind) > 0) {
                    throw x.before(3);
                }
                int n = x.number(1, 4);
                inPlay[kind] += n;
                if (inPlay[kind] > 4) {
                    throw x.before(5);
                }
                p.hand.addAll(Collections.nCopies(n, kind));
            } else {
                do {
                    int kind = x.number(0, into.kinds - 1);
                    if (++inPlay[kind] > 4) {
                        throw x.before(5);
                    }
                    into.heap.add(kind);
                } while (x.isNumber());
            }
            x.take(";");
            lines++;
        }
        return lines;
    }

    static List<int[]> parseEvening(String text, State s) throws Fault {
        Lexed x = new Lexed(text, 500);
        List<int[]> lines = new ArrayList<>();
        while (!x.peek().isEmpty()) {
            int p = x.person(s);
            if (lines.size() == 30) {
                throw x.before(4);
            }
            x.take("asks");
            int q = x.person(s);
            int kind = x.number(0, s.kinds - 1);
            int n = 0;
            if (x.peek().equals("no")) {
                x.at++;
            } else {
                x.take("gives");
                n = x.number(1, 4);
            }
            x.take(";");
            lines.add(new int[] {p, q, kind, n});
        }
        return lines;
    }

    /** A sentence as a tree. */
    static final class Cond {
        String word = "";
        Cond left;
        Cond right;
        int person;
        char sign;
        int number;

        boolean holds(State s, int kind) {
            int hands = 0;
            int most = 0;
            boolean book = false;
            for (Person p : s.people) {
                hands += p.has(kind);
                most = Math.max(most, p.has(kind));
                book |= p.books.contains(kind);
            }
            switch (word) {
                case "or":
                    return left.holds(s, kind) || right.holds(s, kind);
                case "and":
                    return left.holds(s, kind) && right.holds(s, kind);
                case "not":
                    return !left.holds(s, kind);
                case "book":
                    return book;
                case "known":
                    return s.people.get(person).knownOf(kind) > 0;
                case "held":
                    return s.people.get(person).has(kind) > 0;
                case "hands":
                    return compare(hands);
                case "heaped":
                    return compare(Collections.frequency(s.heap, kind));
                case "most":
                    return compare(most);
                default:
                    return compare(kind);
            }
        }

        boolean compare(int n) {
            return sign == '<' ? n < number : sign == '=' ? n == number : n > number;
        }
    }

    static final class CondParser {
        final Lexed x;
        final State s;
        int ones = 0;

        CondParser(String text, State s) {
            x = new Lexed(text, 200);
            this.s = s;
        }

        Cond whole() throws Fault {
            Cond c = cond(1);
            if (!x.peek().isEmpty()) {
                throw x.fault(1);
            }
            return c;
        }

        Cond joined(String word, Cond a, Cond b) {
            Cond c = new Cond();
            c.word = word;
            c.left = a;
            c.right = b;
            return c;
        }

        Cond cond(int depth) throws Fault {
            Cond c = all(depth);
            while (x.peek().equals("or")) {
                x.at++;
                c = joined("or", c, all(depth));
            }
            return c;
        }

        Cond all(int depth) throws Fault {
            Cond c = one(depth);
            while (x.peek().equals("and")) {
                x.at++;
                c = joined("and", c, one(depth));
            }
            return c;
        }

        Cond one(int depth) throws Fault {
            String word = x.peek();
            if (!Arrays.asList("not", "(", "book", "known", "held", "hands", "heaped", "most", "place")
                    .contains(word)) {
                throw x.fault(1);
            }
            if (++ones > 20 || depth > 8) {
                throw x.fault(4);
            }
            x.at++;
            if (word.equals("(")) {
                Cond c = cond(depth + 1);
                x.take(")");
                return c;
            }
            Cond c = joined(word, null, null);
            if (word.equals("not")) {
                c.left = one(depth + 1);
            } else if (word.equals("known") || word.equals("held")) {
                c.person = x.person(s);
            } else if (!word.equals("book")) {
                if (!x.peek().matches("[<=>]")) {
                    throw x.fault(1);
                }
                c.sign = x.peek().charAt(0);
                x.at++;
                c.number = x.number(0, 999);
            }
            return c;
        }
    }

    // ---- the face

    State s = new State();
    String tape = "";
    int fault = 0;
    Cond told = null;
    List<State> past = new ArrayList<>();
    State[] images = new State[2];
    Cond[] imageTold = new Cond[2];
    int[] asked = null;
    int[] heard = null;
    List<Integer> sweep = new ArrayList<>();

    int feed(int... numbers) {
        if (tape.length() > 920) {
            return -1;
        }
        for (int n : numbers) {
            for (int i = 3; i >= 0; i--) {
                tape += (char) (n >> 8 * i & 255);
            }
        }
        return tape.length();
    }

    boolean end(int n) {
        if (n < 0 || n > tape.length()) {
            return false;
        }
        tape = tape.substring(0, n);
        return true;
    }

    String takeTape() {
        String text = tape;
        tape = "";
        return text;
    }

    int table() {
        State made = new State();
        try {
            fault = 0;
            int lines = parseTable(takeTape(), made);
            made.begin();
            s = made;
            told = null;
            past.clear();
            return lines;
        } catch (Fault f) {
            fault = f.kind;
            return -1 - f.place;
        }
    }

    boolean isP(int p) {
        return p >= 0 && p < s.people.size();
    }

    boolean isK(int k) {
        return k >= 0 && k < s.kinds;
    }

    int hand(int p, int kind) {
        if (!isP(p) || !isK(kind)) {
            throw new NoSuchElementException();
        }
        return s.people.get(p).has(kind);
    }

    int person(int p, int what) {
        if (!isP(p) || what < 0 || what > 7) {
            return -1;
        }
        Person x = s.people.get(p);
        int bits = 0;
        for (int k : x.hand) {
            bits |= 1 << k;
        }
        return new int[] {x.hand.size(), x.books.size(), bits, x.others.size(), x.caught, x.askings, x.got,
            x.drewLast}[what];
    }

    int book(int kind) {
        for (int p = 0; p < s.people.size(); p++) {
            if (s.people.get(p).books.contains(kind)) {
                return p;
            }
        }
        return -1;
    }

    int heap(int i) {
        return i >= 0 && i < s.heap.size() ? new ArrayList<>(s.heap).get(i) : -1;
    }

    int now(int what) {
        int loose = s.heap.size();
        for (Person p : s.people) {
            loose += p.hand.size();
        }
        int[] all = {s.turn, s.heap.size(), s.askings, s.books(), s.vain, loose};
        return what >= 0 && what < 6 ? all[what] : -1;
    }

    int why(int p, int q, int kind) {
        return isP(p) && isP(q) && isK(kind) ? s.whyNot(p, q, kind) : -1;
    }

    void keep(State old) {
        past.add(old);
        if (past.size() > 8) {
            past.remove(0);
        }
    }

    int ask(int p, int q, int kind, int lies) {
        if (why(p, q, kind) < 0 || lies < 0 || lies > 1) {
            return -1;
        }
        if (why(p, q, kind) > 0) {
            return -2 - why(p, q, kind);
        }
        keep(s.copy());
        asked = s.asking(p, q, kind, lies == 1);
        return asked[3];
    }

    int asked(int what) {
        return asked == null || what < 0 || what > 7 ? -1 : asked[what];
    }

    int undo() {
        if (past.isEmpty()) {
            return -1;
        }
        s = past.remove(past.size() - 1);
        return past.size();
    }

    int known(int p, int kind) {
        return isP(p) && isK(kind) ? s.people.get(p).knownOf(kind) : -1;
    }

    int can(int p, int kind) {
        return isP(p) && isK(kind) ? s.people.get(p).mayBe(kind) : -1;
    }

    /** The cards that onlooker o neither sees nor knows, by kinds. */
    int[] unseen(int o) {
        int[] rest = new int[s.kinds];
        for (int card : s.heap) {
            rest[card]++;
        }
        for (int p = 0; p < s.people.size(); p++) {
            if (p != o) {
                for (int card : s.people.get(p).hand) {
                    rest[card]++;
                }
                for (int card : s.people.get(p).known) {
                    rest[card]--;
                }
            }
        }
        return rest;
    }

    BigInteger fill(List<Set<Integer>> slots, int at, int[] rest, Map<String, BigInteger> memo) {
        if (at == slots.size()) {
            return BigInteger.ONE;
        }
        String key = Arrays.toString(rest);
        BigInteger known = memo.get(key);
        if (known != null) {
            return known;
        }
        BigInteger sum = BigInteger.ZERO;
        for (int k = 0; k < rest.length; k++) {
            if (rest[k] > 0 && !slots.get(at).contains(k)) {
                BigInteger cards = BigInteger.valueOf(rest[k]);
                rest[k]--;
                sum = sum.add(cards.multiply(fill(slots, at + 1, rest, memo)));
                rest[k]++;
            }
        }
        memo.put(key, sum);
        return sum;
    }

    List<Set<Integer>> slots(int o, int without, int kind) {
        List<Set<Integer>> slots = new ArrayList<>();
        for (int p = 0; p < s.people.size(); p++) {
            if (p != o) {
                for (Back b : s.people.get(p).others) {
                    Set<Integer> cannot = new HashSet<>(b.cannot);
                    if (p == without) {
                        cannot.add(kind);
                    }
                    slots.add(cannot);
                }
            }
        }
        return slots;
    }

    BigInteger total(int o) {
        int kinds = 0;
        for (int n : unseen(o)) {
            kinds += n > 0 ? 1 : 0;
        }
        if (slots(o, -1, 0).size() > 12 || kinds > 6) {
            throw new NoSuchElementException();
        }
        BigInteger all = fill(slots(o, -1, 0), 0, unseen(o), new HashMap<>());
        if (all.signum() == 0) {
            throw new NoSuchElementException();
        }
        return all;
    }

    BigInteger some(int o, int q, int kind) {
        BigInteger all = total(o);
        if (s.people.get(q).knownOf(kind) > 0) {
            return all;
        }
        return all.subtract(fill(slots(o, q, kind), 0, unseen(o), new HashMap<>()));
    }

    long least(BigInteger above, BigInteger below, int what) {
        BigInteger gcd = above.gcd(below);
        return (what == 0 ? above : below).divide(gcd).longValueExact();
    }

    long odds(int o, int q, int kind, int what) {
        if (!isP(o) || !isP(q) || !isK(kind) || o == q || what < 0 || what > 1) {
            throw new NoSuchElementException();
        }
        return least(some(o, q, kind), total(o), what);
    }

    long next(int o, int kind, int what) {
        if (!isP(o) || !isK(kind) || what < 0 || what > 1 || s.heap.isEmpty()) {
            throw new NoSuchElementException();
        }
        total(o);
        // The first card of the heap is one slot more, that can be any, or any but the kind.
        List<Set<Integer>> slots = slots(o, -1, 0);
        slots.add(new HashSet<>());
        BigInteger all = fill(slots, 0, unseen(o), new HashMap<>());
        slots.set(slots.size() - 1, Collections.singleton(kind));
        return least(all.subtract(fill(slots, 0, unseen(o), new HashMap<>())), all, what);
    }

    int whom(int o) {
        if (!isP(o) || s.people.get(o).hand.isEmpty()) {
            return -1;
        }
        int best = -1;
        BigInteger most = BigInteger.valueOf(-1);
        try {
            for (int q = 0; q < s.people.size(); q++) {
                for (int k = 0; k < s.kinds; k++) {
                    if (q != o && s.people.get(o).has(k) > 0 && some(o, q, k).compareTo(most) > 0) {
                        most = some(o, q, k);
                        best = 100 * q + k;
                    }
                }
            }
        } catch (NoSuchElementException e) {
            return -1;
        }
        return best;
    }

    int sweep(int p) {
        if (!isP(p)) {
            return -1;
        }
        sweep = new ArrayList<>();
        for (int k = 0; k < s.kinds; k++) {
            for (int q = 0; q < s.people.size(); q++) {
                if (q != p && s.people.get(p).has(k) > 0 && s.people.get(q).has(k) > 0) {
                    sweep.add(100 * q + k);
                }
            }
        }
        return sweep.size();
    }

    int swept(int i) {
        return i >= 0 && i < sweep.size() ? sweep.get(i) : -1;
    }

    int gains(int p) {
        if (!isP(p)) {
            return -1;
        }
        State after = s.copy();
        Person x = after.people.get(p);
        for (int k = 0; k < s.kinds; k++) {
            if (x.has(k) > 0) {
                for (Person q : after.people) {
                    int n = q == x ? 0 : q.has(k);
                    q.hand.removeAll(n > 0 ? Collections.singleton(k) : Collections.emptySet());
                    x.hand.addAll(Collections.nCopies(n, k));
                }
            }
        }
        int books = x.books.size();
        for (int k = 0; k < s.kinds; k++) {
            books += x.has(k) == 4 ? 1 : 0;
        }
        return books;
    }

    boolean isOpen() {
        return s.people.size() == 2 && s.kinds <= 3 && s.heap.size() <= 4 && s.turn >= 0;
    }

    int open() {
        if (!isOpen()) {
            return -101;
        }
        int v = s.playedOut(new HashMap<>());
        return s.turn == 0 ? v : -v;
    }

    int first() {
        if (!isOpen()) {
            return -1;
        }
        int due = open();
        for (int k = 0; k < s.kinds; k++) {
            if (s.people.get(s.turn).has(k) > 0) {
                State after = s.copy();
                after.asking(s.turn, 1 - s.turn, k, false);
                int v = after.playedOut(new HashMap<>());
                if ((s.turn == 0 ? v : -v) == due) {
                    return k;
                }
            }
        }
        return -99;
    }

    int bent(int p, int rule) {
        return isP(p) && rule >= 0 && rule <= 3 ? s.bent(p, rule) : -1;
    }

    int play(int n) {
        String rules = takeTape();
        if (n < 1 || n > 400 || s.people.isEmpty() || rules.length() != s.people.size()
                || !rules.matches("[\0-\3]*")) {
            return -1;
        }
        State old = s.copy();
        int done = 0;
        while (done < n && s.turn >= 0) {
            int c = s.bent(s.turn, rules.charAt(s.turn));
            if (c < 0) {
                break;
            }
            asked = s.asking(s.turn, c / 100, c % 100, false);
            done++;
        }
        if (done > 0) {
            keep(old);
        }
        return done;
    }

    boolean deal(int n, int seed) {
        State old = s.copy();
        if (n > 9 || !s.deal(n, seed)) {
            return false;
        }
        keep(old);
        return true;
    }

    int[] gamesOf(int i, int j, int n, int seed) {
        if (i < 0 || i > 3 || j < 0 || j > 3 || n < 1 || n > 30 || s.people.size() < 2
                || 5 * s.people.size() > 4 * s.kinds) {
            return new int[] {-1, -1};
        }
        int wins = 0;
        int askings = 0;
        for (int g = 0; g < n; g++) {
            State t = s.copy();
            t.deal(5, seed + g);
            while (t.turn >= 0 && t.askings < 300) {
                int c = t.bent(t.turn, t.turn == 0 ? i : j);
                t.asking(t.turn, c / 100, c % 100, false);
            }
            askings += t.askings;
            boolean ahead = true;
            for (int p = 1; p < t.people.size(); p++) {
                ahead &= t.people.get(0).books.size() > t.people.get(p).books.size();
            }
            wins += ahead ? 1 : 0;
        }
        return new int[] {wins, askings};
    }

    int games(int i, int j, int n, int seed) {
        return gamesOf(i, j, n, seed)[0];
    }

    int length(int i, int j, int n, int seed) {
        return gamesOf(i, j, n, seed)[1];
    }

    int reply(int j, int n, int seed) {
        int best = -1;
        for (int i = 3; i >= 0; i--) {
            int wins = games(i, j, n, seed);
            if (wins < 0) {
                return -1;
            }
            if (best < 0 || wins >= games(best, j, n, seed)) {
                best = i;
            }
        }
        return best;
    }

    int leader() {
        int best = -1;
        for (int p = s.people.size() - 1; p >= 0; p--) {
            if (best < 0 || s.people.get(p).books.size() >= s.people.get(best).books.size()) {
                best = p;
            }
        }
        return best;
    }

    int evening(int lives) {
        if (lives != 0 && lives != 1) {
            return -1000;
        }
        List<int[]> lines;
        try {
            fault = 0;
            lines = parseEvening(takeTape(), s);
        } catch (Fault f) {
            fault = f.kind;
            return -2 - f.place;
        }
        State t = s.copy();
        int[] report = asked;
        int right = 0;
        int wrong = 0;
        for (int[] line : lines) {
            wrong = t.whyNot(line[0], line[1], line[2]);
            if (wrong == 0 && t.people.get(line[1]).has(line[2]) != line[3]) {
                wrong = 5;
            }
            if (wrong > 0) {
                break;
            }
            report = t.asking(line[0], line[1], line[2], false);
            right++;
        }
        heard = new int[] {wrong, right, t.books(), t.turn};
        if (lives == 1 && right > 0) {
            keep(s);
            s = t;
            asked = report;
        }
        return wrong > 0 ? right : -1;
    }

    int heard(int what) {
        return heard == null || what < 0 || what > 3 ? -1 : heard[what];
    }

    int sentence() {
        try {
            fault = 0;
            CondParser parser = new CondParser(takeTape(), s);
            told = parser.whole();
            return parser.ones;
        } catch (Fault f) {
            fault = f.kind;
            return -1 - f.place;
        }
    }

    int said(int k) {
        if (told == null) {
            return -1;
        }
        List<Integer> found = new ArrayList<>();
        for (int kind = 0; kind < s.kinds; kind++) {
            if (told.holds(s, kind)) {
                found.add(kind);
            }
        }
        return k == -1 ? found.size() : k >= 0 && k < found.size() ? found.get(k) : -1;
    }

    boolean image(int k) {
        if (k < 0 || k > 1) {
            return false;
        }
        images[k] = s.copy();
        imageTold[k] = told;
        return true;
    }

    boolean restore(int k) {
        if (k < 0 || k > 1 || images[k] == null) {
            return false;
        }
        s = images[k].copy();
        told = imageTold[k];
        past.clear();
        return true;
    }

    int count(int what) {
        int[] all = {s.kinds, s.people.size(), s.again ? 1 : 0, s.refill, tape.length()};
        return what >= 0 && what < 5 ? all[what] : -1;
    }
}
