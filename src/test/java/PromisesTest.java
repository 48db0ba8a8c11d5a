import java.util.NoSuchElementException;

/** One method for each promise of the document, with answers worked out by hand. */
public final class PromisesTest {
    private static final int N = SevenTable.NONE;
    private static final String THREE = "kinds 3;person a;person b;person d;hand a 0 2;hand a 1 1;hand b 0 1;"
            + "hand b 2 2;hand d 1 2;hand d 2 1;heap 0 1 2;again;refill 2;";
    private static int wrong = 0;
    private static int checks = 0;
    private static String promise = "";

    private static void is(String what, long got, long due) {
        checks++;
        if (got != due) {
            wrong++;
            System.out.println(promise + ": " + what + " answered " + got + ", due is " + due);
        }
    }

    private static void is(String what, boolean got, boolean due) {
        is(what, got ? 1 : 0, due ? 1 : 0);
    }

    static void write(SevenTable x, String text) {
        byte[] bytes = text.getBytes(java.nio.charset.StandardCharsets.ISO_8859_1);
        x.end(0);
        for (int i = 0; i < bytes.length; i += 20) {
            x.feed(Both.pack(bytes, i), Both.pack(bytes, i + 4), Both.pack(bytes, i + 8), Both.pack(bytes, i + 12),
                    Both.pack(bytes, i + 16));
        }
        x.end(bytes.length);
    }

    static SevenTable tell(String text) {
        SevenTable x = new SevenTable();
        write(x, text);
        int lines = x.table();
        if (lines < 0) {
            wrong++;
            System.out.println(promise + ": no table, " + lines + ", fault " + x.fault() + ": " + text);
        }
        return x;
    }

    private static void tableFault(String text, int kind, int place) {
        SevenTable x = new SevenTable();
        write(x, text);
        is("table() of " + text, x.table(), -1 - place);
        is("fault() of " + text, x.fault(), kind);
        is("tape behind " + text, x.count(4), 0);
    }

    private static void eveningFault(String text, int kind, int place) {
        SevenTable x = tell(THREE);
        write(x, text);
        is("evening() of " + text, x.evening(0), -2 - place);
        is("fault() of " + text, x.fault(), kind);
        is("tape behind " + text, x.count(4), 0);
    }

    private static void sentenceFault(String text, int kind, int place) {
        SevenTable x = tell(THREE);
        write(x, text);
        is("sentence() of " + text, x.sentence(), -1 - place);
        is("fault() of " + text, x.fault(), kind);
        is("said(NONE) behind " + text, x.said(N), N);
    }

    private static boolean handThrows(SevenTable x, int p, int kind) {
        try {
            x.hand(p, kind);
            return false;
        } catch (NoSuchElementException e) {
            return true;
        }
    }

    private static boolean oddsThrow(SevenTable x, int o, int q, int kind, int what) {
        try {
            x.odds(o, q, kind, what);
            return false;
        } catch (NoSuchElementException e) {
            return true;
        }
    }

    private static boolean nextThrows(SevenTable x, int o, int kind, int what) {
        try {
            x.next(o, kind, what);
            return false;
        } catch (NoSuchElementException e) {
            return true;
        }
    }

    private static String times(String text, int n) {
        StringBuilder s = new StringBuilder();
        for (int i = 0; i < n; i++) {
            s.append(text);
        }
        return s.toString();
    }

    private static void p01NewObject() {
        SevenTable x = new SevenTable();
        is("NONE", SevenTable.NONE, -1);
        for (int what = 0; what < 5; what++) {
            is("count " + what, x.count(what), 0);
        }
        is("turn", x.now(0), N);
        is("cards", x.now(5), 0);
        is("fault", x.fault(), 0);
        is("asked", x.asked(0), N);
        is("asked", x.asked(6), N);
        is("heard", x.heard(0), N);
        is("swept", x.swept(0), N);
        is("said", x.said(N), N);
        is("undo", x.undo(), N);
        is("restore", x.restore(0), false);
    }

    private static void p02Feed() {
        SevenTable x = new SevenTable();
        is("first", x.feed(0x61676169, 0x6e3b2020, 0x20202020, 0x20202020, 0x20202020), 20);
        is("highest byte first", x.table(), 1);
        is("again", x.count(2), 1);
        for (int i = 1; i <= 47; i++) {
            is("feed " + i, x.feed(-1, 0, 1, 2, 3), 20 * i);
        }
        is("full", x.feed(0, 0, 0, 0, 0), N);
        is("none came", x.count(4), 940);
        x.end(921);
        is("one too many", x.feed(0, 0, 0, 0, 0), N);
        x.end(920);
        is("just fits", x.feed(0, 0, 0, 0, 0), 940);
    }

    private static void p03End() {
        SevenTable x = new SevenTable();
        is("none of none", x.end(0), true);
        is("below 0", x.end(-1), false);
        is("too many", x.end(1), false);
        x.feed(0x61676169, 0x6e3b3b3b, 0, 0, 0);
        is("too many", x.end(21), false);
        is("all", x.end(20), true);
        is("some", x.end(6), true);
        is("not so many any more", x.end(7), false);
        is("bytes", x.count(4), 6);
        is("first bytes alone", x.table(), 1);
        is("least int", x.end(Integer.MIN_VALUE), false);
        is("greatest int", x.end(Integer.MAX_VALUE), false);
    }

    private static void p04Table() {
        SevenTable x = tell(THREE);
        write(x, "kinds 5;person a;hand a 9 1;");
        is("fault stays", x.table(), -25);
        is("old kinds", x.count(0), 3);
        is("old cards", x.now(5), 12);
        is("empty tape, empty table", x.table(), 0);
        is("no kinds", x.count(0), 0);
        is("no persons", x.count(1), 0);
        is("blanks alone", tell(" \n ").count(0), 0);
        SevenTable y = tell("kinds 2;heap 1 0;person bo;heap 1;hand bo 0 2;");
        is("heaps go behind", y.heap(0) * 100 + y.heap(1) * 10 + y.heap(2), 101);
        SevenTable z = tell("kinds 002;person\nab;hand ab 00 3;");
        is("noughts ahead, other blanks", z.hand(0, 0), 3);
        tellsFours();
        tableFaults();
    }

    private static void tellsFours() {
        SevenTable x = tell("kinds 4;person a;person b;hand a 1 4;hand b 0 4;hand b 2 1;heap 3 3 2;refill 2;");
        is("four laid down", x.book(1), 0);
        is("four laid down", x.book(0), 1);
        is("refill for the first turn", x.now(0), 0);
        is("two drawn", x.person(0, 0), 2);
        is("not known", x.person(0, 3), 2);
        is("drawn last", x.person(0, 7), 3);
        SevenTable y = tell("kinds 2;person a;person b;hand a 1 4;hand b 0 1;");
        is("turn goes on", y.now(0), 1);
        SevenTable z = tell("kinds 2;person a;person b;heap 0 0 0 0 1;refill 4;");
        is("laid all down, draws again", z.person(0, 0), 1);
        is("book by refill", z.book(0), 0);
        SevenTable over = tell("kinds 2;person a;person b;hand a 0 4;hand b 1 4;");
        is("nobody has a card", over.now(0), N);
    }

    private static void tableFaults() {
        tableFault("kinds", 1, 5);
        tableFault("kinds ", 1, 6);
        tableFault("kinds x;", 1, 6);
        tableFault("kinds 1;", 2, 6);
        tableFault("kinds 14;", 2, 6);
        tableFault("kinds 3;kinds 1;", 3, 8);
        tableFault("kinds 0003;", 1, 6);
        tableFault("kinds3x;", 1, 0);
        tableFault("kinds 3", 1, 7);
        tableFault("kinds 3 3;", 1, 8);
        tableFault("kinds\t3;", 1, 5);
        tableFault(";", 1, 0);
        tableFault("again;;", 1, 6);
        tableFault("again;again;", 3, 6);
        tableFault("refill 10;", 2, 7);
        tableFault("refill 0;refill 0;", 3, 9);
        tableFault("person 3;", 1, 7);
        tableFault("person abcdefgh;", 1, 7);
        tableFault("person place;", 1, 7);
        tableFault("person asks;", 1, 7);
        tableFault("person a;person a;", 3, 16);
        tableFault("person a;person b;person d;person e;person f;person g;person g;", 4, 54);
        tableFault("hand a 0 1;", 3, 5);
        tableFault("hand hand 0 1;", 1, 5);
        tableFault("person a;hand a 0 1;", 2, 16);
        tableFault("heap 0;", 2, 5);
        tableFault("kinds 3;person a;hand a 3 1;", 2, 24);
        tableFault("kinds 3;person a;hand a 0 0;", 2, 26);
        tableFault("kinds 3;person a;hand a 0 5;", 2, 26);
        tableFault("kinds 3;person a;hand a 0 1;hand a 0 9;", 3, 35);
        tableFault("kinds 3;person a;person b;hand a 0 3;hand b 0 2;", 5, 46);
        tableFault("kinds 3;heap;", 1, 12);
        tableFault("kinds 3;heap 0 3;", 2, 15);
        tableFault("kinds 3;heap 0 0 0 0 0;", 5, 21);
        tableFault("kinds 3;person a;heap 0 0;hand a 0 3;", 5, 35);
        tableFault("\u00e9", 1, 0);
        String pack = "kinds 13;heap" + times(" 0 1 2 3 4 5 6 7 8 9 10 11 12", 4);
        is("a whole pack", tell(pack + ";").now(1), 52);
        tableFault(pack + " 7;", 5, pack.length() + 1);
        tableFault("again;" + times(" ", 900), 1, 900);
        tableFault(times(" ", 895) + "again;", 1, 900);
        tableFault(times(" ", 896) + "agains;", 1, 896);
        tableFault(times(" ", 899) + "again", 1, 900);
        tableFault(times(" ", 880) + "x" + times(" ", 30), 1, 880);
        is("900 bytes", tell(times(" ", 894) + "again;").count(2), 1);
    }

    private static void p05Fault() {
        SevenTable x = new SevenTable();
        is("ahead of any", x.fault(), 0);
        write(x, "kinds 99;");
        x.table();
        is("of table", x.fault(), 2);
        x.evening(5);
        is("-1000 leaves it", x.fault(), 2);
        x.evening(0);
        is("without one", x.fault(), 0);
        x.sentence();
        is("of sentence", x.fault(), 1);
        x.table();
        is("without one", x.fault(), 0);
        write(x, "a asks b 0 no;");
        x.evening(1);
        is("of evening", x.fault(), 3);
    }

    private static void p06Hand() {
        SevenTable x = tell(THREE);
        is("hand", x.hand(0, 0), 2);
        is("hand", x.hand(1, 2), 2);
        is("none", x.hand(2, 0), 0);
        is("no such person", handThrows(x, 3, 0), true);
        is("no such person", handThrows(x, -1, 0), true);
        is("no such kind", handThrows(x, 0, 3), true);
        is("no such kind", handThrows(x, 0, -1), true);
        is("no such ones", handThrows(x, Integer.MAX_VALUE, Integer.MIN_VALUE), true);
        is("nobody", handThrows(new SevenTable(), 0, 0), true);
    }

    private static void p07Person() {
        SevenTable x = tell(THREE);
        int[] due = {3, 0, 3, 3, 0, 0, 0, N};
        for (int what = 0; what < 8; what++) {
            is("a " + what, x.person(0, what), due[what]);
        }
        is("bits", x.person(2, 2), 6);
        x.ask(0, 1, 0, 0);
        int[] then = {4, 0, 3, 2, 0, 1, 1, N};
        for (int what = 0; what < 8; what++) {
            is("then " + what, x.person(0, what), then[what]);
        }
        x.ask(0, 2, 0, 0);
        is("book", x.person(0, 1), 1);
        is("drew last, though laid down", x.person(0, 7), 0);
        is("no such what", x.person(0, 8), N);
        is("no such what", x.person(0, -1), N);
        is("no such person", x.person(3, 0), N);
        is("no such person", x.person(-1, 0), N);
    }

    private static void p08Book() {
        SevenTable x = tell("kinds 3;person a;person b;hand b 2 4;hand a 0 1;");
        is("b's", x.book(2), 1);
        is("none", x.book(0), N);
        is("no such", x.book(3), N);
        is("no such", x.book(-1), N);
    }

    private static void p09Heap() {
        SevenTable x = tell(THREE);
        is("first", x.heap(0), 0);
        is("last", x.heap(2), 2);
        is("behind", x.heap(3), N);
        is("ahead", x.heap(-1), N);
        is("far", x.heap(Integer.MAX_VALUE), N);
        x.ask(0, 2, 0, 0);
        is("first then", x.heap(0), 1);
        is("behind then", x.heap(2), N);
    }

    private static void p10Now() {
        SevenTable x = tell("kinds 2;person a;person b;hand a 0 1;hand b 0 2;hand b 1 1;heap 0;");
        int[] due = {0, 1, 0, 0, 0, 5};
        for (int what = 0; what < 6; what++) {
            is("now " + what, x.now(what), due[what]);
        }
        x.ask(0, 1, 0, 0);
        x.ask(0, 1, 0, 0);
        int[] then = {1, 0, 2, 1, 0, 1};
        for (int what = 0; what < 6; what++) {
            is("then " + what, x.now(what), then[what]);
        }
        x.ask(1, 0, 1, 0);
        is("turn stays, nobody else has one", x.now(0), 1);
        is("in vain", x.now(4), 1);
        x.ask(1, 0, 1, 0);
        is("over", x.now(0), N);
        is("in vain", x.now(4), 2);
        is("no such", x.now(6), N);
        is("no such", x.now(-1), N);
    }

    private static void p11Why() {
        SevenTable x = tell(THREE);
        is("can", x.why(0, 1, 0), 0);
        is("not its turn", x.why(1, 0, 0), 2);
        is("not its turn, the least", x.why(1, 1, 1), 2);
        is("has none", x.why(0, 1, 2), 3);
        is("has none, the least", x.why(0, 0, 2), 3);
        is("itself", x.why(0, 0, 0), 4);
        is("no such", x.why(3, 0, 0), N);
        is("no such", x.why(0, 3, 0), N);
        is("no such", x.why(0, 1, 3), N);
        is("no such", x.why(-1, 1, 0), N);
        is("no such", x.why(0, -1, 0), N);
        is("no such", x.why(0, 1, -1), N);
        SevenTable over = tell("kinds 2;person a;person b;hand a 0 4;");
        is("over", over.why(1, 1, 1), 1);
    }

    private static void p12Ask() {
        SevenTable x = tell(THREE);
        is("refused", x.ask(1, 0, 0, 0), -4);
        is("refused", x.ask(0, 1, 2, 0), -5);
        is("refused", x.ask(0, 0, 0, 1), -6);
        is("no such lie", x.ask(0, 1, 0, 2), N);
        is("no such lie", x.ask(0, 1, 0, -1), N);
        is("no such", x.ask(0, 1, 3, 0), N);
        is("no such", x.ask(0, 3, 0, 0), N);
        is("none done", x.now(2), 0);
        is("given", x.ask(0, 1, 0, 0), 1);
        is("turn stays", x.now(0), 0);
        is("no, but shown", x.ask(0, 2, 0, 0), 0);
        is("turn stays", x.now(0), 0);
        SevenTable y = tell(THREE);
        is("a lie", y.ask(0, 1, 1, 1), 0);
        is("none to lie about", y.asked(6), 0);
        is("turn is the next one's", y.now(0), 1);
        is("lies", y.ask(1, 0, 0, 1), 0);
        is("turn is the next one's", y.now(0), 2);
        SevenTable over = tell("kinds 2;person a;person b;hand a 0 4;");
        is("over", over.ask(0, 1, 0, 0), -3);
        refills();
    }

    private static void refills() {
        SevenTable x = tell("kinds 3;person a;person b;hand a 0 2;hand b 0 2;hand b 1 1;heap 1 2 2;refill 2;");
        is("gives", x.ask(0, 1, 0, 0), 2);
        is("lays down, draws two", x.person(0, 0), 2);
        is("turn stays", x.now(0), 0);
        is("others", x.person(0, 3), 2);
        is("no book by refill", x.asked(5), 0);
        is("not drawn by asking", x.asked(4), N);
        SevenTable y = tell("kinds 3;person a;person b;person d;hand a 0 1;hand b 0 3;hand d 1 1;heap 1;refill 0;");
        is("gives", y.ask(0, 1, 0, 0), 3);
        is("no refill, b has none: d", y.now(0), 2);
        SevenTable z = tell("kinds 3;person a;person b;hand a 0 3;hand b 1 1;heap 0 2 2 2 2 1;refill 4;");
        is("draws the fourth", z.ask(0, 1, 0, 0), 0);
        is("book", z.asked(5), 0);
        is("empty, but the turn is b's", z.now(0), 1);
        is("nothing drawn yet", z.person(0, 0), 0);
        is("b draws", z.ask(1, 0, 1, 0), 0);
        is("a draws three, and as many as there are", z.now(0), 0);
        is("a has them", z.person(0, 0), 4);
    }

    private static void p13Asked() {
        SevenTable x = tell(THREE);
        is("ahead of any", x.asked(0), N);
        x.ask(0, 0, 0, 0);
        is("not done", x.asked(0), N);
        x.ask(0, 1, 0, 0);
        int[] due = {0, 1, 0, 1, N, N, 0, 1};
        for (int what = 0; what < 8; what++) {
            is("asked " + what, x.asked(what), due[what]);
        }
        x.ask(0, 2, 0, 0);
        int[] then = {0, 2, 0, 0, 0, 0, 0, 1};
        for (int what = 0; what < 8; what++) {
            is("then " + what, x.asked(what), then[what]);
        }
        x.undo();
        is("undo leaves it", x.asked(1), 2);
        is("no such", x.asked(8), N);
        is("no such", x.asked(-1), N);
        SevenTable y = tell("kinds 3;person a;person b;hand a 0 2;hand a 1 1;hand b 0 1;hand b 1 1;heap 2 2 2;");
        y.ask(0, 1, 1, 1);
        is("a lie", y.asked(6), 1);
        is("drawn", y.asked(4), 2);
        y.ask(1, 0, 1, 0);
        is("all knew", y.asked(7), 2);
        is("b's known ones", y.known(1, 1), 2);
        is("b is caught", y.person(1, 4), 1);
        y.ask(1, 0, 1, 0);
        is("all knew that there is none", y.asked(7), 0);
        y.image(0);
        y.ask(0, 1, 0, 0);
        y.restore(0);
        is("restore leaves it", y.asked(2), 0);
        write(y, "\0\0");
        y.play(1);
        is("of play", y.asked(3), 1);
        is("of play", y.asked(0), 0);
        write(y, "a asks b 0 no;");
        y.evening(0);
        is("judged only", y.asked(3), 1);
        write(y, "a asks b 0 no;");
        y.evening(1);
        is("lived", y.asked(3), 0);
    }

    private static void p14Undo() {
        SevenTable x = tell(THREE);
        is("none", x.undo(), N);
        x.ask(0, 0, 0, 0);
        is("refused is not done", x.undo(), N);
        x.ask(0, 1, 0, 0);
        x.ask(0, 2, 0, 0);
        is("one more", x.undo(), 1);
        is("cards", x.person(0, 0), 4);
        is("known", x.known(0, 0), 2);
        is("none more", x.undo(), 0);
        is("cards", x.person(0, 0), 3);
        is("askings", x.now(2), 0);
        is("others", x.can(1, 0), 3);
        is("none is", x.undo(), N);
        for (int i = 0; i < 10; i++) {
            x.deal(1 + i % 4, i);
        }
        is("eight are kept", x.undo(), 7);
        for (int i = 6; i >= 0; i--) {
            is("undo", x.undo(), i);
        }
        is("no more", x.undo(), N);
        is("the third deal was not kept", x.person(0, 0), 2);
        write(x, "\0\0\0");
        is("play", x.play(3), 3);
        is("play is one", x.undo(), 0);
        is("askings", x.now(2), 0);
        write(x, "\0\0\0");
        x.play(1);
        write(x, THREE);
        x.table();
        is("a new table", x.undo(), N);
        write(x, "a asks b 0 gives 1;a asks d 0 no;");
        x.evening(1);
        is("askings", x.now(2), 2);
        is("an evening is one", x.undo(), 0);
        is("askings", x.now(2), 0);
        write(x, "a asks b 0 gives 1;");
        x.evening(0);
        is("judged only", x.undo(), N);
        is("no deal", x.deal(5, 1), false);
        is("no deal", x.undo(), N);
        SevenTable over = tell("kinds 2;person a;person b;hand a 0 4;");
        write(over, "\0\0");
        is("nothing played", over.play(3), 0);
        is("nothing played", over.undo(), N);
        SevenTable lying = tell("kinds 2;person a;person b;hand a 0 1;hand b 0 1;");
        lying.ask(0, 1, 0, 1);
        lying.ask(1, 0, 0, 0);
        is("caught", lying.person(1, 4), 1);
        is("in vain", lying.now(4), 0);
        lying.undo();
        is("not caught", lying.person(1, 4), 0);
        is("in vain", lying.now(4), 1);
        is("given", lying.person(1, 6) + lying.person(1, 5), 0);
    }

    private static void p15Known() {
        SevenTable x = tell(THREE);
        is("nothing", x.known(0, 0), 0);
        x.ask(0, 1, 0, 0);
        is("one had, one given", x.known(0, 0), 2);
        is("b", x.known(1, 0), 0);
        x.ask(0, 2, 1, 0);
        is("one had, two given", x.known(0, 1), 3);
        is("no such", x.known(3, 0), N);
        is("no such", x.known(-1, 0), N);
        is("no such", x.known(0, 3), N);
        is("no such", x.known(0, -1), N);
        SevenTable y = tell("kinds 3;person a;person b;hand a 0 2;hand a 1 1;hand b 0 1;hand b 1 1;heap 1 2 0;again;");
        y.ask(0, 1, 1, 1);
        is("shown", y.known(0, 1), 2);
        is("turn stays", y.now(0), 0);
        y.ask(0, 1, 0, 1);
        is("drawn is not known", y.known(0, 2), 0);
        is("asked for", y.known(0, 0), 1);
        y.ask(1, 0, 1, 1);
        is("said no: not known any more", y.known(0, 1), 0);
        is("caught", y.person(0, 4), 1);
        is("can't be it", y.can(0, 1), 0);
        is("can be another: the two, one had, one drawn", y.can(0, 0), 4);
    }

    private static void p16Can() {
        SevenTable x = tell(THREE);
        is("all can be", x.can(1, 0), 3);
        x.ask(0, 1, 0, 0);
        is("gave all", x.can(1, 0), 0);
        is("others can be", x.can(1, 1), 2);
        is("a's others", x.can(0, 0), 2);
        x.ask(0, 2, 0, 0);
        is("said no", x.can(2, 0), 0);
        is("can be", x.can(2, 1), 3);
        is("no such", x.can(3, 0), N);
        is("no such", x.can(-1, 0), N);
        is("no such", x.can(0, 3), N);
        is("no such", x.can(0, -1), N);
        SevenTable y = tell("kinds 3;person a;person b;hand a 0 1;hand b 1 1;heap 2 2 1 1;");
        y.ask(0, 1, 0, 0);
        y.ask(1, 0, 1, 0);
        is("one drawn, and now not 1", y.can(0, 1), 0);
        is("one drawn", y.can(0, 0), 1);
        is("b's drawn one came later", y.can(1, 0), 1);
        y.ask(0, 1, 2, 0);
        is("a had one as an other, one was given", y.known(0, 2), 2);
        is("b gave it", y.can(1, 1), 0);
    }

    private static void p17Odds() {
        SevenTable x = tell(THREE);
        is("above", x.odds(0, 1, 0, 0), 7);
        is("below", x.odds(0, 1, 0, 1), 12);
        is("four of nine", x.odds(0, 1, 2, 0) * 1000 + x.odds(0, 1, 2, 1), 37042);
        is("itself", oddsThrow(x, 0, 0, 0, 0), true);
        is("what", oddsThrow(x, 0, 1, 0, 2), true);
        is("what", oddsThrow(x, 0, 1, 0, -1), true);
        is("no such", oddsThrow(x, 3, 1, 0, 0), true);
        is("no such", oddsThrow(x, 0, 3, 0, 0), true);
        is("no such", oddsThrow(x, 0, 1, 3, 0), true);
        is("no such", oddsThrow(x, -1, 1, 0, 0), true);
        x.ask(0, 1, 0, 0);
        is("can't be", x.odds(2, 1, 0, 0) * 10 + x.odds(2, 1, 0, 1), 1);
        is("is known", x.odds(2, 0, 0, 0) * 10 + x.odds(2, 0, 0, 1), 11);
        SevenTable y = tell("kinds 13;person a;person b;hand a 0 1;hand b 1 4;hand b 2 3;hand b 3 3;hand b 4 3;hand b 5 3;");
        is("twelve others, four kinds", y.odds(0, 1, 2, 0), 1);
        is("no such there", y.odds(0, 1, 9, 0) * 10 + y.odds(0, 1, 9, 1), 1);
        SevenTable z = tell("kinds 13;person a;person b;hand a 0 1;hand b 1 1;hand b 2 3;hand b 3 3;hand b 4 3;hand b 5 3;");
        is("thirteen others", oddsThrow(z, 0, 1, 2, 0), true);
        is("but one for b", oddsThrow(z, 1, 0, 2, 0), false);
        SevenTable six = tell("kinds 13;person a;person b;hand a 0 1;hand b 1 1;heap 2 3 4 5 6;");
        is("six kinds", six.odds(0, 1, 1, 0) * 10 + six.odds(0, 1, 1, 1), 16);
        SevenTable seven = tell("kinds 13;person a;person b;hand a 0 1;hand b 1 1;heap 2 3 4 5 6 7;");
        is("seven kinds", oddsThrow(seven, 0, 1, 1, 0), true);
        noWay();
    }

    private static void noWay() {
        SevenTable x = tell("kinds 2;person a;person b;person d;hand a 0 2;hand b 0 2;hand d 1 1;");
        x.ask(0, 1, 0, 1);
        is("b's two can't be 0, and there is but one 1: a sees it", oddsThrow(x, 0, 1, 0, 0), true);
        is("none for what is known, too", oddsThrow(x, 2, 0, 0, 0), true);
        SevenTable y = tell("kinds 2;person a;person b;hand a 0 2;hand b 0 2;");
        y.ask(0, 1, 0, 1);
        is("no way at all", oddsThrow(y, 0, 1, 0, 0), true);
        is("no way at all", oddsThrow(y, 0, 1, 1, 0), true);
        is("nobody", y.whom(0), N);
        is("b sees a's", y.odds(1, 0, 0, 0), 1);
    }

    private static void p18Next() {
        SevenTable x = tell(THREE);
        is("two of nine", x.next(0, 0, 0) * 100 + x.next(0, 0, 1), 209);
        is("one third", x.next(0, 1, 0) * 100 + x.next(0, 1, 1), 103);
        is("four of nine", x.next(0, 2, 0) * 100 + x.next(0, 2, 1), 409);
        is("what", nextThrows(x, 0, 0, 2), true);
        is("what", nextThrows(x, 0, 0, -1), true);
        is("no such", nextThrows(x, 3, 0, 0), true);
        is("no such", nextThrows(x, 0, 3, 0), true);
        is("no such", nextThrows(x, -1, 0, 0), true);
        SevenTable empty = tell("kinds 2;person a;person b;hand a 0 1;hand b 1 1;");
        is("empty heap", nextThrows(empty, 0, 0, 0), true);
        SevenTable seven = tell("kinds 13;person a;person b;hand a 0 1;hand b 1 1;heap 2 3 4 5 6 7;");
        is("seven kinds", nextThrows(seven, 0, 1, 0), true);
        SevenTable y = tell("kinds 2;person a;person b;hand a 0 1;hand b 1 2;heap 0 1 1 0;");
        is("four of six", y.next(0, 1, 0) * 10 + y.next(0, 1, 1), 23);
        y.ask(0, 1, 0, 0);
        is("b has no 0: the heap is 0 and 1 and 1", y.next(0, 0, 0) * 10 + y.next(0, 0, 1), 13);
        SevenTable alone = tell("kinds 2;person a;hand a 0 1;heap 0 1;");
        is("alone", alone.next(0, 1, 0) * 10 + alone.next(0, 1, 1), 12);
    }

    private static void p19Whom() {
        SevenTable x = tell(THREE);
        is("the greatest", x.whom(0), 101);
        is("b has 0 and 2; a and d have as many", x.whom(1), 0);
        is("no such", x.whom(3), N);
        is("no such", x.whom(-1), N);
        SevenTable y = tell("kinds 2;person a;person b;person d;hand a 0 1;hand d 0 1;hand d 1 1;");
        is("who has no card", y.whom(1), N);
        is("who has some", y.whom(0), 200);
        is("one alone", tell("kinds 2;person a;hand a 0 1;heap 1;").whom(0), N);
        SevenTable zero = tell("kinds 2;person a;person b;hand a 0 1;hand a 1 1;");
        is("odds of nothing", zero.whom(0), 100);
        SevenTable z = tell("kinds 13;person a;person b;hand a 0 1;hand b 1 1;heap 2 3 4 5 6 7;");
        is("as odds throws", z.whom(0), N);
    }

    private static void p20Sweep() {
        SevenTable x = tell(THREE);
        is("two", x.sweep(0), 2);
        is("d: b has 2, a has 1", x.sweep(2), 2);
        is("no such", x.sweep(3), N);
        is("no such", x.sweep(-1), N);
        is("none", tell("kinds 2;person a;person b;hand a 0 1;hand b 1 1;").sweep(0), 0);
    }

    private static void p21Swept() {
        SevenTable x = tell(THREE);
        is("ahead of any", x.swept(0), N);
        x.sweep(2);
        is("first", x.swept(0), 1);
        is("second", x.swept(1), 102);
        is("behind", x.swept(2), N);
        is("ahead", x.swept(-1), N);
        x.sweep(7);
        is("NONE leaves it", x.swept(1), 102);
        x.sweep(0);
        is("kind by kind", x.swept(0) * 1000 + x.swept(1), 100201);
        SevenTable y = tell("kinds 2;person a;person b;person d;hand a 0 1;hand a 1 1;hand b 0 1;hand b 1 1;"
                + "hand d 0 1;hand d 1 1;");
        is("four", y.sweep(1), 4);
        is("person by person", y.swept(0) * 1000 + y.swept(1), 200);
        is("person by person", y.swept(2) * 1000 + y.swept(3), 1201);
    }

    private static void p22Gains() {
        SevenTable x = tell("kinds 3;person a;person b;hand a 0 2;hand a 1 1;hand b 0 2;hand b 1 2;hand b 2 4;heap 1;");
        is("all four of 0, not of 1", x.gains(0), 1);
        is("with its book", x.gains(1), 2);
        is("no such", x.gains(2), N);
        is("no such", x.gains(-1), N);
        is("none", tell("kinds 3;person a;").gains(0), 0);
        SevenTable y = tell("kinds 4;person a;person b;person d;hand a 0 2;hand b 0 1;hand a 1 1;hand b 1 2;hand d 1 1;"
                + "hand b 2 2;hand d 2 2;hand a 3 2;hand d 3 2;");
        is("1 and 3, not 0 nor 2", y.gains(0), 2);
        is("1 and 2", y.gains(1), 2);
        is("1, 2 and 3", y.gains(2), 3);
        is("13 kinds", tell("kinds 13;person a;person b;hand a 12 2;hand b 12 2;hand b 0 4;").gains(0), 1);
    }

    private static void p23Open() {
        SevenTable x = tell("kinds 2;person a;person b;hand a 0 2;hand a 1 1;hand b 0 2;hand b 1 3;");
        is("takes both", x.open(), 2);
        SevenTable y = tell("kinds 2;person a;person b;hand a 0 1;hand b 0 3;hand b 1 4;");
        is("with b's book", y.open(), 0);
        SevenTable z = tell("kinds 2;person a;person b;hand a 0 4;hand b 1 3;heap 1;");
        is("b on turn: draws even", z.open(), 0);
        SevenTable w = tell("kinds 3;person a;person b;hand a 0 1;hand b 1 1;hand b 0 1;heap 0 1 0 1;");
        is("nothing changes", w.open(), w.open());
        is("now", w.now(2), 0);
        is("three persons", tell(THREE).open(), -101);
        is("one", tell("kinds 2;person a;hand a 0 1;").open(), -101);
        is("four kinds", tell("kinds 4;person a;person b;hand a 0 1;").open(), -101);
        is("five in the heap", tell("kinds 3;person a;person b;hand a 0 1;heap 0 1 1 1 1;").open(), -101);
        is("four in the heap", tell("kinds 3;person a;person b;hand a 0 1;heap 1 1 1 1;").open(), 1);
        is("over", tell("kinds 2;person a;person b;hand a 0 4;").open(), -101);
        is("empty", new SevenTable().open(), -101);
        String two = "kinds 3;person a;person b;hand a 0 3;hand a 1 1;hand b 2 3;heap 0 2 1 1;";
        // a draws 0 and lays four down; then b draws 2 and has none left: a, too, draws for nothing.
        is("one each", tell(two).open(), 0);
        // With 'again' a shows 0, draws 2, gives it to b; nobody gets more.
        is("one each", tell(two + "again;").open(), 0);
        SevenTable later = tell("kinds 3;person a;person b;hand a 0 1;hand a 2 2;hand b 1 1;hand b 2 1;");
        is("no book can be", later.open(), 0);
        write(later, "kinds 2;person a;person b;hand a 0 2;hand b 0 2;hand b 1 3;heap 1;");
        later.table();
        is("two kinds behind three: a takes 0, b draws 1", later.open(), 0);
        is("the kind to ask", later.first(), 0);
        String refilled = "kinds 2;person a;person b;hand a 0 3;hand b 1 1;heap 0 1 1 1;";
        is("a has a book, b draws the rest", tell(refilled).open(), 0);
        is("b draws one, a draws two as a refill, and takes b's", tell(refilled + "refill 3;").open(), 2);
    }

    private static void p24First() {
        SevenTable x = tell("kinds 2;person a;person b;hand a 0 2;hand a 1 1;hand b 0 2;hand b 1 3;");
        is("of like ones the least", x.first(), 0);
        SevenTable y = tell("kinds 3;person a;person b;hand a 0 1;hand a 2 2;hand b 1 1;hand b 2 2;heap 1;");
        is("the book first", y.first(), 2);
        is("three persons", tell(THREE).first(), N);
        is("over", tell("kinds 2;person a;person b;hand a 0 4;").first(), N);
        is("five in the heap", tell("kinds 3;person a;person b;hand a 0 1;heap 0 1 1 1 1;").first(), N);
        is("empty", new SevenTable().first(), N);
    }

    private static void p25Bent() {
        SevenTable x = tell("kinds 4;person a;person b;person d;person e;hand a 1 1;hand a 3 2;hand d 1 1;hand d 2 1;"
                + "hand e 3 1;hand e 0 2;heap 1 2;");
        is("0: least, next with a card", x.bent(0, 0), 201);
        is("0: round", x.bent(3, 0), 0);
        is("1: nothing known, as 0", x.bent(0, 1), 201);
        is("2: most of 3, of whom has most", x.bent(0, 2), 303);
        is("2: of like ones the first", x.bent(2, 2), 1);
        is("3: drew nothing, as 0", x.bent(0, 3), 201);
        is("no card", x.bent(1, 0), N);
        is("no such", x.bent(4, 0), N);
        is("no such", x.bent(-1, 0), N);
        is("no rule", x.bent(0, 4), N);
        is("no rule", x.bent(0, -1), N);
        x.ask(0, 3, 3, 0);
        is("1: known of a, whom e has not", x.bent(2, 1), 301);
        x.ask(0, 2, 3, 0);
        is("drew 1", x.asked(4), 1);
        is("3: what it drew", x.bent(0, 3), 201);
        x.ask(2, 3, 2, 0);
        is("drew 2", x.asked(4), 2);
        is("3: what it drew last", x.bent(2, 3), 302);
        is("1: a's 3 is known, but d has none", x.bent(2, 1), 301);
        is("alone", tell("kinds 2;person a;hand a 0 1;").bent(0, 0), N);
        SevenTable y = tell("kinds 2;person a;person b;person d;hand d 0 1;hand d 1 1;");
        is("0: nobody else has one: the next one", y.bent(2, 0), 0);
        is("2: nobody else has one: the first", y.bent(2, 2), 0);
        bentKnown();
    }

    private static void bentKnown() {
        SevenTable x = tell("kinds 3;person a;person b;person d;hand a 1 2;hand a 0 1;hand b 1 1;hand b 2 1;"
                + "hand d 2 1;hand d 1 1;hand d 0 1;");
        x.ask(0, 2, 1, 0);
        is("1: b has a 1, a's is known", x.bent(1, 1), 1);
        is("0: the next one", x.bent(1, 0), 201);
        x.ask(0, 1, 0, 0);
        is("1: by persons, then kinds: 0 ahead of 1", x.bent(2, 1), 0);
    }

    private static void p26Play() {
        SevenTable x = tell(THREE);
        write(x, "\0\0\0");
        is("two", x.play(2), 2);
        is("two", x.now(2), 2);
        is("tape is empty", x.count(4), 0);
        is("a had 0 given, then drawn", x.book(0), 0);
        write(x, "\0\1\2");
        is("to the end", x.play(400) < 400, true);
        is("over", x.now(0), N);
        write(x, "\0\1\2");
        is("over", x.play(1), 0);
        x.deal(3, 5);
        String[] bad = {"", "\0\0", "\0\0\0\0", "\0\0\4", "\0\0\u00ff"};
        for (String rules : bad) {
            write(x, rules);
            is("no rules", x.play(1), N);
        }
        write(x, "\0\0\0");
        is("n 0", x.play(0), N);
        write(x, "\0\0\0");
        is("n 401", x.play(401), N);
        write(x, "\0\0\0");
        is("n -1", x.play(-1), N);
        is("none done", x.now(2), 0);
        is("nobody", new SevenTable().play(1), N);
        playsByRules();
    }

    private static void playsByRules() {
        SevenTable y = tell("kinds 3;person a;person b;hand a 0 1;hand a 1 2;hand b 0 1;hand b 2 2;heap 2 1;");
        write(y, "\2\0");
        y.play(1);
        is("by bent 2", y.asked(2), 1);
        write(y, "\2\0");
        y.play(1);
        is("b by bent 0", y.asked(0) * 10 + y.asked(2), 10);
        SevenTable alone = tell("kinds 2;person a;hand a 0 1;");
        write(alone, "\0");
        is("alone", alone.play(3), 0);
    }

    private static void p27Deal() {
        SevenTable x = tell("kinds 2;person a;person b;");
        is("deal", x.deal(3, 1), true);
        // Worked out by hand: x = 1103527590, then on; the draws are of 8, 7, .. 2.
        int[] pack = {0, 0, 0, 0, 1, 1, 1, 1};
        int s = 1;
        for (int i = 7; i >= 1; i--) {
            s = s * 1103515245 + 12345;
            int j = (s >>> 8) % (i + 1);
            int card = pack[i];
            pack[i] = pack[j];
            pack[j] = card;
        }
        is("a's zeros", x.hand(0, 0), 3 - pack[0] - pack[1] - pack[2]);
        is("b's zeros", x.hand(1, 0), 3 - pack[3] - pack[4] - pack[5]);
        is("heap", x.heap(0) * 10 + x.heap(1), pack[6] * 10 + pack[7]);
        is("cards", x.now(5), 8);
        is("turn", x.now(0), 0);
        is("all others", x.person(0, 3), 3);
        is("four each", x.deal(4, 7), true);
        is("not so many", x.deal(5, 7), false);
        is("n 0", x.deal(0, 7), false);
        is("n -1", x.deal(-1, 7), false);
        is("n great", x.deal(Integer.MAX_VALUE, 7), false);
        is("no persons", tell("kinds 2;").deal(1, 1), false);
        is("no kinds", tell("person a;").deal(1, 1), false);
        SevenTable y = tell("kinds 13;person a;");
        is("nine", y.deal(9, 1), true);
        is("ten", y.deal(10, 1), false);
        x.ask(0, 1, x.hand(0, 0) > 0 ? 0 : 1, 0);
        is("asked once", x.now(2), 1);
        x.deal(2, 2);
        is("anew", x.now(2) + x.person(0, 5) + x.person(0, 6), 0);
    }

    private static void p28Games() {
        SevenTable x = tell("kinds 3;person a;person b;hand a 0 1;hand b 1 1;");
        is("games", x.games(0, 1, 2, 3), 2);
        is("stays", x.now(5), 2);
        is("no latest", x.asked(0), N);
        is("nothing to undo", x.undo(), N);
        is("i", x.games(4, 0, 1, 1), N);
        is("i", x.games(-1, 0, 1, 1), N);
        is("j", x.games(0, 4, 1, 1), N);
        is("j", x.games(0, -1, 1, 1), N);
        is("n", x.games(0, 0, 0, 1), N);
        is("n", x.games(0, 0, 31, 1), N);
        is("n", x.games(0, 0, 30, 1) >= 0, true);
        is("one person", tell("kinds 3;person a;").games(0, 0, 1, 1), N);
        is("not so many cards", tell("kinds 2;person a;person b;").games(0, 0, 1, 1), N);
        is("as many games as one by one", x.games(2, 3, 3, Integer.MAX_VALUE),
                x.games(2, 3, 1, Integer.MAX_VALUE) + x.games(2, 3, 1, Integer.MIN_VALUE)
                + x.games(2, 3, 1, Integer.MIN_VALUE + 1));
        int wins = 0;
        for (int seed = 40; seed < 50; seed++) {
            x.deal(5, seed);
            write(x, "\1\2");
            x.play(300);
            wins += x.person(0, 1) > x.person(1, 1) ? 1 : 0;
        }
        is("as play tells", x.games(1, 2, 10, 40), wins);
    }

    private static void p29Length() {
        SevenTable x = tell("kinds 3;person a;person b;");
        is("length", x.length(0, 1, 2, 3), 9);
        is("i", x.length(4, 0, 1, 1), N);
        is("j", x.length(0, -1, 1, 1), N);
        is("n", x.length(0, 0, 31, 1), N);
        is("nobody", new SevenTable().length(0, 0, 1, 1), N);
        int all = 0;
        for (int seed = 40; seed < 50; seed++) {
            x.deal(5, seed);
            write(x, "\3\1");
            all += x.play(300);
        }
        is("as play tells", x.length(3, 1, 10, 40), all);
    }

    private static void p30Reply() {
        SevenTable x = tell("kinds 3;person a;person b;");
        is("reply", x.reply(1, 2, 3), 0);
        for (int j = 0; j < 4; j++) {
            int best = 0;
            for (int i = 1; i < 4; i++) {
                best = x.games(i, j, 12, 77) > x.games(best, j, 12, 77) ? i : best;
            }
            is("against " + j, x.reply(j, 12, 77), best);
        }
        is("j", x.reply(4, 1, 1), N);
        is("j", x.reply(-1, 1, 1), N);
        is("n", x.reply(0, 0, 1), N);
        is("n", x.reply(0, 31, 1), N);
        is("one person", tell("kinds 3;person a;").reply(0, 1, 1), N);
    }

    private static void p31Leader() {
        is("nobody", new SevenTable().leader(), N);
        is("like ones", tell(THREE).leader(), 0);
        is("b", tell("kinds 3;person a;person b;person d;hand b 0 4;hand d 1 4;").leader(), 1);
        is("d", tell("kinds 3;person a;person b;person d;hand b 0 4;hand d 1 4;hand d 2 4;").leader(), 2);
    }

    private static void p32Evening() {
        SevenTable x = tell(THREE);
        write(x, "a asks b 0 gives 1;a asks d 0 no;b asks a 0 no;");
        is("wrong line", x.evening(0), 2);
        is("all stays", x.now(2), 0);
        is("tape", x.count(4), 0);
        write(x, "a asks b 0 gives 1;a asks d 0 no;b asks a 0 no;");
        is("-1000", x.evening(2), -1000);
        is("-1000", x.evening(-1), -1000);
        is("the tape stays", x.count(4), 47);
        is("lived", x.evening(1), 2);
        is("two askings", x.now(2), 2);
        is("empty", x.evening(1), N);
        write(x, "a asks b 1 no;");
        is("none wrong", x.evening(0), N);
        write(x, "a asks a 1 no;");
        is("itself", x.evening(1), 0);
        write(x, times("a asks b 1 no;", 30));
        is("30 lines: a 1 is shown, then a 2 drawn", x.evening(0), 2);
        eveningFaults();
    }

    private static void eveningFaults() {
        eveningFault("a", 1, 1);
        eveningFault("z asks b 0 no;", 3, 0);
        eveningFault("no asks b 0 no;", 1, 0);
        eveningFault("a gives b 0 no;", 1, 2);
        eveningFault("a asks z 0 no;", 3, 7);
        eveningFault("a asks 0 no;", 1, 7);
        eveningFault("a asks b 3 no;", 2, 9);
        eveningFault("a asks b no;", 1, 9);
        eveningFault("a asks b 0 gives 0;", 2, 17);
        eveningFault("a asks b 0 gives 5;", 2, 17);
        eveningFault("a asks b 0 gives;", 1, 16);
        eveningFault("a asks b 0;", 1, 10);
        eveningFault("a asks b 0 no", 1, 13);
        eveningFault("a asks b 0 no 1;", 1, 14);
        eveningFault(times("a asks b 0 no;", 30) + "a", 4, 420);
        eveningFault(times("a asks b 0 no;", 30) + "z", 3, 420);
        eveningFault(times("a asks b 0 no;", 30) + ";", 1, 420);
        eveningFault(times("a asks b 0 no;", 30) + times(" ", 81), 1, 500);
        eveningFault(times(" ", 500) + "z", 1, 500);
        eveningFault(times(" ", 499) + "zz", 3, 499);
        SevenTable x = tell("person a;person b;");
        write(x, "a asks b 0 no;");
        is("no kinds", x.evening(0), -11);
        is("no kinds", x.fault(), 2);
        SevenTable y = tell(THREE);
        write(y, times("a asks b 0 no;", 30) + times(" ", 80));
        is("500 bytes", y.evening(0), 0);
    }

    private static void p33Heard() {
        SevenTable x = tell(THREE);
        is("ahead of any", x.heard(0), N);
        write(x, "a asks b 0 gives 1;a asks d 0 no;b asks a 0 no;");
        x.evening(0);
        int[] due = {2, 2, 1, 0};
        for (int what = 0; what < 4; what++) {
            is("heard " + what, x.heard(what), due[what]);
        }
        x.evening(7);
        write(x, "a asks");
        x.evening(0);
        is("a fault leaves it", x.heard(1), 2);
        is("no such", x.heard(4), N);
        is("no such", x.heard(-1), N);
        write(x, "a asks b 0 gives 2;");
        x.evening(1);
        is("another answer", x.heard(0), 5);
        write(x, "a asks b 0 no;");
        x.evening(1);
        is("another answer", x.heard(0), 5);
        write(x, "a asks b 2 no;");
        x.evening(1);
        is("has none", x.heard(0), 3);
        write(x, "a asks a 0 gives 2;");
        x.evening(1);
        is("itself", x.heard(0), 4);
        SevenTable y = tell("kinds 2;person a;person b;hand a 0 2;hand b 0 2;");
        write(y, "a asks b 0 gives 2;a asks b 0 no;");
        is("over", y.evening(1), 1);
        is("over", y.heard(0), 1);
        is("turn", y.heard(3), N);
        is("books", y.heard(2), 1);
        y.evening(0);
        is("not wrong", y.heard(0), 0);
        is("no lines", y.heard(1), 0);
    }

    private static void p34Sentence() {
        SevenTable x = tell(THREE);
        write(x, "held a and hands > 2");
        is("two", x.sentence(), 2);
        is("tape", x.count(4), 0);
        write(x, "not(book or known b)and not not place=2");
        is("seven", x.sentence(), 7);
        write(x, "hands >");
        is("fault stays", x.sentence(), -8);
        is("still said", x.said(N), 1);
        write(x, times("book or ", 19) + "book");
        is("twenty", x.sentence(), 20);
        write(x, times("(", 7) + "book" + times(")", 7));
        is("eight within", x.sentence(), 8);
        write(x, "(" + times("not ", 6) + "book) and book");
        is("eight within", x.sentence(), 9);
        write(x, times(" ", 196) + "book");
        is("200 bytes", x.sentence(), 1);
        sentenceFault("", 1, 0);
        sentenceFault("  ", 1, 2);
        sentenceFault("kinds", 1, 0);
        sentenceFault("a", 1, 0);
        sentenceFault("or book", 1, 0);
        sentenceFault("book book", 1, 5);
        sentenceFault("book or", 1, 7);
        sentenceFault("book and or", 1, 9);
        sentenceFault("(book", 1, 5);
        sentenceFault("book)", 1, 4);
        sentenceFault("held z", 3, 5);
        sentenceFault("known 3", 1, 6);
        sentenceFault("held no", 1, 5);
        sentenceFault("hands 5", 1, 6);
        sentenceFault("most > a", 1, 7);
        sentenceFault("most > 1000", 1, 7);
        sentenceFault("place ; 1", 1, 6);
        sentenceFault(times("book or ", 20) + "book", 4, 160);
        sentenceFault(times("book or ", 20) + ")", 1, 160);
        sentenceFault(times("(", 8) + "book", 4, 8);
        sentenceFault(times("not ", 8) + "book", 4, 32);
        sentenceFault(times("not ", 8) + "a", 1, 32);
        sentenceFault("book" + times(" ", 197), 1, 200);
        sentenceFault(times(" ", 198) + "book", 1, 200);
        sentenceFault(times(" ", 199) + "hold", 1, 199);
    }

    private static int saidBits(SevenTable x, String text) {
        write(x, text);
        x.sentence();
        int bits = 0;
        int n = x.said(N);
        for (int k = 0; k < n; k++) {
            bits |= 1 << x.said(k);
        }
        is("behind the last, " + text, x.said(n), N);
        return bits;
    }

    private static void p35Said() {
        SevenTable x = tell("kinds 4;person a;person b;hand a 0 2;hand a 1 1;hand b 0 1;hand b 2 2;hand b 3 4;heap 1 1 2;");
        is("no sentence", x.said(N), N);
        is("no sentence", x.said(0), N);
        is("held", saidBits(x, "held a"), 3);
        is("held", saidBits(x, "held b"), 5);
        is("book", saidBits(x, "book"), 8);
        is("hands", saidBits(x, "hands = 3"), 1);
        is("hands", saidBits(x, "hands < 1"), 8);
        is("heaped", saidBits(x, "heaped > 0"), 6);
        is("most", saidBits(x, "most = 2"), 5);
        is("place", saidBits(x, "place > 1"), 12);
        is("not", saidBits(x, "not held a"), 12);
        is("and ahead of or", saidBits(x, "book or held a and place > 0"), 10);
        is("brackets", saidBits(x, "(book or held a) and place > 2"), 8);
        is("not binds one", saidBits(x, "not book and place > 1"), 4);
        is("or", saidBits(x, "place = 0 or place = 3 or place = 2"), 13);
        is("none known", saidBits(x, "known a"), 0);
        x.ask(0, 1, 0, 0);
        is("known now", x.said(N), 1);
        is("known now", x.said(0), 0);
        is("k below", x.said(-2), N);
        is("k far", x.said(4), N);
        write(x, "book");
        x.sentence();
        write(x, THREE);
        x.table();
        is("a new table: none", x.said(N), N);
        SevenTable y = new SevenTable();
        write(y, "book");
        is("without a table", y.sentence(), 1);
        is("of no kinds", y.said(N), 0);
    }

    private static void p36Image() {
        SevenTable x = tell(THREE);
        is("0", x.image(0), true);
        is("1", x.image(1), true);
        is("2", x.image(2), false);
        is("-1", x.image(-1), false);
        x.ask(0, 1, 0, 0);
        is("kept anew", x.image(0), true);
        x.ask(0, 2, 0, 0);
        x.restore(0);
        is("the later one", x.now(2), 1);
        x.restore(1);
        is("the earlier one", x.now(2), 0);
    }

    private static void p37Restore() {
        SevenTable x = tell(THREE);
        is("nothing kept", x.restore(0), false);
        is("no such", x.restore(2), false);
        is("no such", x.restore(-1), false);
        write(x, "held a");
        x.sentence();
        x.ask(0, 1, 0, 0);
        x.image(1);
        is("nothing kept in 0", x.restore(0), false);
        x.ask(0, 2, 0, 0);
        write(x, "kinds 2;person z;");
        x.table();
        x.sweep(0);
        write(x, "abc");
        is("restored", x.restore(1), true);
        is("kinds", x.count(0), 3);
        is("persons", x.count(1), 3);
        is("again", x.count(2), 1);
        is("refill", x.count(3), 2);
        is("known", x.known(0, 0), 2);
        is("askings", x.now(2), 1);
        is("sentence", x.said(N), 2);
        is("the tape stays", x.count(4), 3);
        is("asked stays", x.asked(1), 2);
        is("nothing can be undone", x.undo(), N);
        x.ask(0, 2, 0, 0);
        is("but what comes", x.undo(), 0);
        write(x, "a asks b 0 no;");
        is("its names", x.evening(0), N);
        x.ask(0, 2, 0, 0);
        x.restore(1);
        is("kept still", x.now(2), 1);
        is("nothing can be undone", x.undo(), N);
    }

    private static void p38Count() {
        SevenTable x = tell(THREE);
        int[] due = {3, 3, 1, 2, 0};
        for (int what = 0; what < 5; what++) {
            is("count " + what, x.count(what), due[what]);
        }
        x.feed(1, 2, 3, 4, 5);
        is("tape", x.count(4), 20);
        is("no such", x.count(5), N);
        is("no such", x.count(-1), N);
        is("no again", tell("kinds 2;").count(2), 0);
        is("no refill", tell("kinds 2;").count(3), 0);
    }

    public static void main(String[] args) {
        Runnable[] all = {PromisesTest::p01NewObject, PromisesTest::p02Feed, PromisesTest::p03End,
            PromisesTest::p04Table, PromisesTest::p05Fault, PromisesTest::p06Hand, PromisesTest::p07Person,
            PromisesTest::p08Book, PromisesTest::p09Heap, PromisesTest::p10Now, PromisesTest::p11Why,
            PromisesTest::p12Ask, PromisesTest::p13Asked, PromisesTest::p14Undo, PromisesTest::p15Known,
            PromisesTest::p16Can, PromisesTest::p17Odds, PromisesTest::p18Next, PromisesTest::p19Whom,
            PromisesTest::p20Sweep, PromisesTest::p21Swept, PromisesTest::p22Gains, PromisesTest::p23Open,
            PromisesTest::p24First, PromisesTest::p25Bent, PromisesTest::p26Play, PromisesTest::p27Deal,
            PromisesTest::p28Games, PromisesTest::p29Length, PromisesTest::p30Reply, PromisesTest::p31Leader,
            PromisesTest::p32Evening, PromisesTest::p33Heard, PromisesTest::p34Sentence, PromisesTest::p35Said,
            PromisesTest::p36Image, PromisesTest::p37Restore, PromisesTest::p38Count};
        for (int i = 0; i < all.length; i++) {
            promise = "promise " + (i + 1);
            try {
                all[i].run();
            } catch (RuntimeException e) {
                wrong++;
                System.out.println(promise + ": thrown " + e + " at " + e.getStackTrace()[0] + " " + e.getStackTrace()[1]);
            }
        }
        System.out.println("promises: " + checks + " checks, " + wrong + " wrong");
        System.exit(wrong > 0 ? 1 : 0);
    }
}
