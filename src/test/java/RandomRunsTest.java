import java.util.ArrayList;
import java.util.Collections;
import java.util.List;
import java.util.Random;

/** Runs of calls drawn from seeds, on the class and the model side by side. */
public final class RandomRunsTest {
    private static final String[] NAMES = {"a", "b", "d", "anna", "zz", "persons", "g", "kind", "hander"};
    private static final int[] ODD = {Integer.MIN_VALUE, -1000, -101, -2, -1, 0, 1, 2, 3, 4, 5, 6, 7, 12, 13, 14, 30,
        31, 52, 100, 400, 401, 512, 940, 941, Integer.MAX_VALUE};

    public static void main(String[] args) {
        int runs = args.length > 0 ? Integer.parseInt(args[0]) : 3000;
        int from = args.length > 1 ? Integer.parseInt(args[1]) : 1;
        long calls = 0;
        int wrong = 0;
        for (int seed = from; seed < from + runs && wrong == 0; seed++) {
            Both b = new Both();
            try {
                run(b, new Random(seed));
            } catch (RuntimeException e) {
                System.out.println(b.told + "thrown: " + e);
                e.printStackTrace(System.out);
                b.wrong++;
            }
            calls += b.calls;
            wrong += b.wrong;
            if (b.wrong > 0) {
                System.out.println("seed " + seed);
            }
        }
        System.out.println("random runs: " + calls + " calls");
        System.exit(wrong > 0 ? 1 : 0);
    }

    static String blank(Random r) {
        int n = r.nextInt(8);
        return n == 0 ? "\n" : n == 1 ? "  " : " ";
    }

    static String maybe(Random r) {
        return r.nextInt(6) == 0 ? " " : "";
    }

    static String tableText(Random r) {
        int kinds = r.nextInt(3) == 0 ? 2 + r.nextInt(12) : 2 + r.nextInt(3);
        int persons = r.nextInt(3) == 0 ? 2 : r.nextInt(7);
        List<String> lines = new ArrayList<>();
        for (int p = 0; p < persons; p++) {
            lines.add("person" + blank(r) + NAMES[p]);
        }
        if (r.nextInt(2) == 0) {
            lines.add("again");
        }
        if (r.nextInt(2) == 0) {
            lines.add("refill" + blank(r) + r.nextInt(r.nextBoolean() ? 3 : 10));
        }
        Collections.shuffle(lines, r);
        lines.add(r.nextInt(lines.size() + 1), "kinds" + blank(r) + kinds);
        int[][] hands = new int[persons][kinds];
        List<Integer> heap = new ArrayList<>();
        int full = r.nextInt(3);
        for (int k = 0; k < kinds; k++) {
            int all = full == 0 ? r.nextInt(5) : 4;
            int style = r.nextInt(4);
            for (int i = 0; i < all; i++) {
                if (persons == 0 || style != 3 && r.nextInt(3) == 0) {
                    heap.add(k);
                } else {
                    hands[style == 2 ? k % persons : r.nextInt(persons)][k]++;
                }
            }
        }
        List<String> tail = new ArrayList<>();
        for (int p = 0; p < persons; p++) {
            for (int k = 0; k < kinds; k++) {
                if (hands[p][k] > 0) {
                    tail.add("hand" + blank(r) + NAMES[p] + blank(r) + k + blank(r) + hands[p][k]);
                }
            }
        }
        Collections.shuffle(heap, r);
        for (int i = 0; i < heap.size();) {
            StringBuilder line = new StringBuilder("heap");
            int n = 1 + r.nextInt(heap.size() - i);
            for (int j = 0; j < n; j++) {
                line.append(blank(r)).append(heap.get(i++));
            }
            tail.add(line.toString());
        }
        Collections.shuffle(tail, r);
        lines.addAll(tail);
        StringBuilder text = new StringBuilder();
        for (String line : lines) {
            text.append(maybe(r)).append(line).append(maybe(r)).append(';').append(maybe(r));
        }
        return text.toString();
    }

    static String eveningText(Both b, Random r) {
        StringBuilder text = new StringBuilder();
        Model.State s = b.m.s.copy();
        int lines = r.nextInt(12) == 0 ? 28 + r.nextInt(5) : r.nextInt(6);
        for (int i = 0; i < lines && !s.people.isEmpty() && s.kinds > 0; i++) {
            int p = s.turn >= 0 && r.nextInt(12) > 0 ? s.turn : r.nextInt(s.people.size());
            int q = r.nextInt(s.people.size());
            if (q == p && r.nextInt(8) > 0) {
                q = (q + 1) % s.people.size();
            }
            int k = r.nextInt(s.kinds);
            if (!s.people.get(p).hand.isEmpty() && r.nextInt(8) > 0) {
                k = s.people.get(p).hand.get(r.nextInt(s.people.get(p).hand.size()));
            }
            int n = r.nextInt(10) == 0 ? r.nextInt(5) : s.people.get(q).has(k);
            text.append(s.people.get(p).name).append(" asks ").append(s.people.get(q).name).append(blank(r))
                    .append(k).append(blank(r)).append(n > 0 ? "gives " + n : "no").append(maybe(r)).append(';');
            if (s.whyNot(p, q, k) == 0) {
                s.asking(p, q, k, false);
            }
        }
        return text.toString();
    }

    static String sentenceText(Both b, Random r, int depth) {
        StringBuilder text = new StringBuilder();
        int ones = 1 + r.nextInt(depth < 2 ? 3 : 2);
        for (int i = 0; i < ones; i++) {
            text.append(i == 0 ? "" : r.nextBoolean() ? " or " : " and ");
            while (r.nextInt(4) == 0) {
                text.append("not ");
            }
            String name = NAMES[r.nextInt(Math.max(1, b.m.s.people.size()))];
            switch (r.nextInt(depth < 9 ? 7 : 3)) {
                case 0:
                    text.append("book");
                    break;
                case 1:
                    text.append("known ").append(name);
                    break;
                case 2:
                    text.append("held ").append(name);
                    break;
                case 3:
                case 4:
                    String[] words = {"hands", "heaped", "most", "place"};
                    text.append(words[r.nextInt(4)]).append(maybe(r)).append("<=>".charAt(r.nextInt(3)))
                            .append(maybe(r)).append(r.nextInt(r.nextInt(6) == 0 ? 1000 : 5));
                    break;
                default:
                    text.append("(").append(sentenceText(b, r, depth + 1)).append(")");
                    break;
            }
        }
        return text.toString();
    }

    static String spoil(String text, Random r) {
        StringBuilder s = new StringBuilder(text);
        int times = 1 + r.nextInt(2);
        String[] bits = {";", " ", "0", "9", "13", "a", "no", "hand ", "kinds 3;", "person g;", "again;", "(", ")", "not ",
            "A", "\t", "<", "=", "x1", "0003", "heap 0 1;", "hand a 0 1;", "refill 2;", "asks", "\u00ff", "\0", "or", "5",
            "person kind;", "person persons;", "abcdefgh", "most > 1"};
        for (int i = 0; i < times; i++) {
            int at = r.nextInt(s.length() + 1);
            int kind = r.nextInt(3);
            if (kind == 0 && at < s.length()) {
                s.deleteCharAt(at);
            } else if (kind == 1 && s.length() > 0) {
                s.setLength(r.nextInt(s.length()));
            } else {
                s.insert(at, bits[r.nextInt(bits.length)]);
            }
        }
        return s.length() > 940 ? s.substring(0, 940) : s.toString();
    }

    static String pad(String text, int most, Random r) {
        StringBuilder s = new StringBuilder(text);
        int to = Math.min(940, most - 6 + r.nextInt(14));
        while (s.length() < to) {
            s.insert(r.nextInt(4) == 0 ? s.length() : 0, ' ');
        }
        return s.toString();
    }

    static void writeText(Both b, Random r, String text, int most) {
        String t = r.nextInt(5) == 0 ? spoil(text, r) : text;
        t = r.nextInt(12) == 0 && t.length() < most ? pad(t, most, r) : t;
        b.write(t.length() > 940 ? t.substring(0, 940) : t);
    }

    static void run(Both b, Random r) {
        if (r.nextInt(10) > 0) {
            b.write(tableText(r));
            b.table();
            b.readAll();
        }
        for (int i = 0; i < 60 && b.wrong == 0; i++) {
            step(b, r);
            if (r.nextInt(6) == 0) {
                b.readAll();
            }
        }
        b.readAll();
    }

    static int some(Random r, int below) {
        return r.nextInt(25) == 0 ? ODD[r.nextInt(ODD.length)] : r.nextInt(Math.max(1, below));
    }

    static void step(Both b, Random r) {
        int persons = b.m.s.people.size();
        int kinds = b.m.s.kinds;
        int p = some(r, persons);
        int q = some(r, persons);
        int k = some(r, kinds);
        switch (r.nextInt(24)) {
            case 0:
            case 1:
            case 2:
            case 3:
            case 4:
            case 5:
                askLikely(b, r);
                break;
            case 6:
                b.why(p, q, k);
                b.ask(p, q, k, r.nextInt(5) == 0 ? some(r, 2) : 0);
                break;
            case 7:
                b.undo();
                break;
            case 8:
            case 9:
                b.odds(p, q, k, some(r, 2));
                b.next(p, k, some(r, 2));
                b.whom(p);
                break;
            case 10:
                b.sweep(p);
                for (int i = -1; i <= b.m.sweep.size(); i++) {
                    b.swept(i);
                }
                b.gains(p);
                break;
            case 11:
                b.open();
                b.first();
                break;
            case 12:
                for (int rule = -1; rule <= 4; rule++) {
                    b.bent(p, rule);
                }
                break;
            case 13:
                playSome(b, r);
                break;
            case 14:
                if (r.nextInt(3) == 0) {
                    b.deal(some(r, 10), r.nextInt());
                }
                break;
            case 15:
                if (r.nextInt(8) == 0) {
                    int n = r.nextInt(5) == 0 ? some(r, 31) : 1 + r.nextInt(3);
                    int seed = r.nextInt(4) == 0 ? Integer.MAX_VALUE : r.nextInt();
                    b.games(some(r, 4), some(r, 4), n, seed);
                    b.length(some(r, 4), some(r, 4), n, seed);
                    b.reply(some(r, 4), n, seed);
                }
                break;
            case 16:
            case 17:
                writeText(b, r, eveningText(b, r), 500);
                b.evening(some(r, 2));
                b.fault();
                break;
            case 18:
            case 19:
                writeText(b, r, sentenceText(b, r, 0), 200);
                b.sentence();
                b.fault();
                for (int i = -2; i <= kinds; i++) {
                    b.said(i);
                }
                break;
            case 20:
                b.image(some(r, 2));
                break;
            case 21:
                b.restore(some(r, 2));
                break;
            case 22:
                if (r.nextInt(3) == 0) {
                    writeText(b, r, tableText(r), 900);
                    b.table();
                    b.fault();
                }
                break;
            default:
                b.feed(r.nextInt(), r.nextInt(), r.nextInt(), r.nextInt(), r.nextInt());
                b.end(some(r, b.m.tape.length() + 1));
                b.count(4);
                b.said(-1);
                break;
        }
    }

    /** An asking that can be done, mostly: who is on turn asks for what it has. */
    static void askLikely(Both b, Random r) {
        int p = b.m.s.turn;
        int persons = b.m.s.people.size();
        if (p < 0 || persons < 2) {
            b.ask(0, 1, 0, 0);
            return;
        }
        List<Integer> hand = b.m.s.people.get(p).hand;
        int q = (p + 1 + r.nextInt(persons - 1)) % persons;
        b.ask(p, q, hand.get(r.nextInt(hand.size())), r.nextInt(4) == 0 ? 1 : 0);
        for (int what = 0; what < 8; what++) {
            b.asked(what);
        }
    }

    static void playSome(Both b, Random r) {
        StringBuilder rules = new StringBuilder();
        for (int i = 0; i < b.m.s.people.size(); i++) {
            rules.append((char) (r.nextInt(30) == 0 ? r.nextInt(256) : r.nextInt(4)));
        }
        if (r.nextInt(15) == 0) {
            rules.append((char) 0);
        }
        b.write(rules.toString());
        b.play(r.nextInt(15) == 0 ? some(r, 402) : 1 + r.nextInt(12));
        b.count(4);
    }
}
