import java.io.IOException;
import java.nio.charset.StandardCharsets;
import java.nio.file.Files;
import java.nio.file.Path;
import java.nio.file.Paths;
import java.util.NoSuchElementException;

/** What the tests of edges share: a test for each sentence of the document, texts, throws, all that can be seen. */
abstract class Check {
    static final int N = SevenTable.NONE;
    static final int[] WILD = {Integer.MIN_VALUE, Integer.MIN_VALUE + 1, -1001, -1000, -101, -100, -2, 1000000,
        Integer.MAX_VALUE - 1, Integer.MAX_VALUE};
    /** Twelve cards of three kinds, three persons, as the shared test has them. */
    static final String THREE = "kinds 3;person a;person b;person d;hand a 0 2;hand a 1 1;hand b 0 1;"
            + "hand b 2 2;hand d 1 2;hand d 2 1;heap 0 1 2;again;refill 2;";
    private static final String PEOPLE = "person a;person b;person d;person e;person f;person g;";

    private static int wrong = 0;
    private static int checks = 0;
    private static int sentences = 0;
    private static String now = "";
    private static String document = null;

    /** One test: the words of the document that name the edge, and what holds there. */
    static void sentence(String words, Runnable test) {
        now = words;
        sentences++;
        int before = checks;
        try {
            test.run();
        } catch (RuntimeException e) {
            tellWrong("thrown " + e + " at " + e.getStackTrace()[0] + " " + e.getStackTrace()[1]);
        }
        if (checks == before) {
            tellWrong("nothing is checked");
        }
        if (!bare(document()).contains(bare(words))) {
            System.out.println("(not in the document any more: " + words + ")");
        }
    }

    private static String bare(String text) {
        return text.replaceAll("[\\s`]+", " ");
    }

    private static String document() {
        if (document == null) {
            Path path = Paths.get("../shared/DOC.md");
            try {
                document = new String(Files.readAllBytes(path), StandardCharsets.ISO_8859_1);
            } catch (IOException e) {
                document = "";
            }
        }
        return document;
    }

    static void finish(String name) {
        System.out.println(name + ": " + sentences + " sentences, " + checks + " checks, " + wrong + " wrong");
        System.exit(wrong > 0 ? 1 : 0);
    }

    static void tellWrong(String what) {
        wrong++;
        System.out.println("[" + now + "] " + what);
    }

    static void is(String what, long got, long due) {
        checks++;
        if (got != due) {
            tellWrong(what + " answered " + got + ", due is " + due);
        }
    }

    static void is(String what, boolean got, boolean due) {
        is(what, got ? 1 : 0, due ? 1 : 0);
    }

    static void same(String what, String got, String due) {
        checks++;
        if (!got.equals(due)) {
            tellWrong(what + ":\n" + got + "\n, due is\n" + due);
        }
    }

    static String times(String text, int n) {
        StringBuilder s = new StringBuilder();
        for (int i = 0; i < n; i++) {
            s.append(text);
        }
        return s.toString();
    }

    /** Blanks ahead of a text, so that it ends with byte n. */
    static String endingAt(int n, String text) {
        return times(" ", n - text.length()) + text;
    }

    /** Lines that tell the first n persons: a, b, d, e, f, g. */
    static String people(int n) {
        return PEOPLE.substring(0, n * "person a;".length());
    }

    static void write(SevenTable x, String text) {
        byte[] bytes = text.getBytes(StandardCharsets.ISO_8859_1);
        x.end(0);
        for (int i = 0; i < bytes.length; i += 20) {
            x.feed(Both.pack(bytes, i), Both.pack(bytes, i + 4), Both.pack(bytes, i + 8), Both.pack(bytes, i + 12),
                    Both.pack(bytes, i + 16));
        }
        if (!x.end(bytes.length)) {
            tellWrong("too much for the tape: " + bytes.length);
        }
    }

    static SevenTable tell(String text) {
        SevenTable x = new SevenTable();
        write(x, text);
        if (x.table() < 0) {
            tellWrong("no table, fault " + x.fault() + ": " + text);
        }
        return x;
    }

    static int evening(SevenTable x, String text, int lives) {
        write(x, text);
        return x.evening(lives);
    }

    static int sentenceOf(SevenTable x, String text) {
        write(x, text);
        return x.sentence();
    }

    static int play(SevenTable x, String rules, int n) {
        write(x, rules);
        return x.play(n);
    }

    static void tableFine(String text, int lines) {
        SevenTable x = new SevenTable();
        write(x, text);
        is("table() of " + text, x.table(), lines);
        is("fault() of " + text, x.fault(), 0);
        is("tape behind " + text, x.count(4), 0);
    }

    /** The fault of a table, and that the table ahead of it stays. */
    static void tableFault(String text, int kind, int place) {
        SevenTable x = tell("kinds 5;person q;hand q 4 3;heap 2;refill 3;");
        sentenceOf(x, "held q");
        String before = picture(x);
        write(x, text);
        is("table() of " + text, x.table(), -1 - place);
        is("fault() of " + text, x.fault(), kind);
        is("tape behind " + text, x.count(4), 0);
        same("what stays behind " + text, picture(x), before);
    }

    static void eveningFine(String text, int lines) {
        SevenTable x = tell(THREE);
        evening(x, text, 0);
        is("fault() of " + text, x.fault(), 0);
        is("wrong or right lines of " + text, x.heard(1) <= lines && x.heard(1) >= 0, true);
        is("tape behind " + text, x.count(4), 0);
    }

    /** The fault of an evening, that nothing is lived of it, and that what was heard stays. */
    static void eveningFault(String text, int kind, int place) {
        SevenTable x = tell(THREE);
        evening(x, "a asks b 0 gives 1;a asks b 0 gives 1;", 0);
        String before = picture(x);
        is("evening() of " + text, evening(x, text, 1), -2 - place);
        is("fault() of " + text, x.fault(), kind);
        is("tape behind " + text, x.count(4), 0);
        same("what stays behind " + text, picture(x), before);
    }

    static void sentenceFine(String text, int ones) {
        SevenTable x = tell(THREE);
        is("sentence() of " + text, sentenceOf(x, text), ones);
        is("fault() of " + text, x.fault(), 0);
        is("tape behind " + text, x.count(4), 0);
        is("said(NONE) behind " + text, x.said(N) >= 0, true);
    }

    /** The fault of a sentence, and that the sentence ahead of it stays. */
    static void sentenceFault(String text, int kind, int place) {
        SevenTable x = tell(THREE);
        sentenceOf(x, "place = 1");
        String before = picture(x);
        is("sentence() of " + text, sentenceOf(x, text), -1 - place);
        is("fault() of " + text, x.fault(), kind);
        is("tape behind " + text, x.count(4), 0);
        same("what stays behind " + text, picture(x), before);
    }

    static boolean handThrows(SevenTable x, int p, int kind) {
        try {
            x.hand(p, kind);
            return false;
        } catch (NoSuchElementException e) {
            return true;
        }
    }

    static boolean oddsThrow(SevenTable x, int o, int q, int kind, int what) {
        try {
            x.odds(o, q, kind, what);
            return false;
        } catch (NoSuchElementException e) {
            return true;
        }
    }

    static boolean nextThrows(SevenTable x, int o, int kind, int what) {
        try {
            x.next(o, kind, what);
            return false;
        } catch (NoSuchElementException e) {
            return true;
        }
    }

    static void oddsAre(SevenTable x, int o, int q, int kind, long above, long below) {
        is("odds for " + o + " that " + q + " has " + kind + ", above", x.odds(o, q, kind, 0), above);
        is("odds for " + o + " that " + q + " has " + kind + ", below", x.odds(o, q, kind, 1), below);
    }

    static void nextIs(SevenTable x, int o, int kind, long above, long below) {
        is("next for " + o + " of " + kind + ", above", x.next(o, kind, 0), above);
        is("next for " + o + " of " + kind + ", below", x.next(o, kind, 1), below);
    }

    /** Nothing is known of anybody, and nobody has asked, drawn or been caught, as behind a table without a refill. */
    static void isFresh(String when, SevenTable x) {
        for (int p = 0; p < x.count(1); p++) {
            int cards = x.person(p, 0);
            is(when + ": others of " + p, x.person(p, 3), cards);
            is(when + ": caught, asked, given, drawn " + p,
                    x.person(p, 4) + x.person(p, 5) + x.person(p, 6) + x.person(p, 7), N);
            for (int kind = 0; kind < x.count(0); kind++) {
                is(when + ": known " + p, x.known(p, kind), 0);
                is(when + ": can " + p, x.can(p, kind), cards);
            }
        }
        is(when + ": askings, in vain", x.now(2) + x.now(4), 0);
    }

    /** All that can be seen of the cards, what is known, the sentence and what calls told last; not fault and tape. */
    static String picture(SevenTable x) {
        StringBuilder s = new StringBuilder(cards(x));
        s.append("\nasked");
        for (int what = 0; what < 8; what++) {
            s.append(' ').append(x.asked(what));
        }
        s.append("\nheard");
        for (int what = 0; what < 4; what++) {
            s.append(' ').append(x.heard(what));
        }
        s.append("\nswept ").append(x.swept(0)).append(' ').append(x.swept(1));
        return s.toString();
    }

    /** All that can be seen of the table, its cards, what is known, and the sentence. */
    static String cards(SevenTable x) {
        StringBuilder s = new StringBuilder();
        int kinds = x.count(0);
        int persons = x.count(1);
        s.append(kinds).append(' ').append(persons).append(' ').append(x.count(2)).append(' ').append(x.count(3));
        for (int p = 0; p < persons; p++) {
            s.append("\nperson");
            for (int what = 0; what < 8; what++) {
                s.append(' ').append(x.person(p, what));
            }
            for (int kind = 0; kind < kinds; kind++) {
                s.append(", ").append(x.hand(p, kind)).append(' ').append(x.known(p, kind)).append(' ');
                s.append(x.can(p, kind));
            }
        }
        s.append("\nnow");
        for (int what = 0; what < 6; what++) {
            s.append(' ').append(x.now(what));
        }
        s.append("\nbooks and heap");
        for (int kind = 0; kind < kinds; kind++) {
            s.append(' ').append(x.book(kind));
        }
        for (int i = 0; i < x.now(1); i++) {
            s.append(' ').append(x.heap(i));
        }
        return s.append("\nsaid ").append(x.said(N)).append(' ').append(x.said(0)).toString();
    }
}
