/** The edges of each call, promise by promise: least and greatest arguments, refused calls, what stays. */
public final class EdgesOfCallsTest extends Check {
    private static final String TWO = "kinds 2;person a;person b;";
    private static final int AGAIN = 0x61676169;

    private static void newObject() {
        SevenTable x = new SevenTable();
        same("an empty table", cards(x), "0 0 0 0\nnow -1 0 0 0 0 0\nbooks and heap\nsaid -1 -1");
        is("an empty tape", x.count(4), 0);
        is("its tape is an empty table", x.table(), 0);
        is("an empty evening", x.evening(1), N);
        is("an empty sentence is none", x.sentence(), -1);
        is("no bents for nobody", x.play(1), N);
        is("no person", x.person(0, 0), N);
        is("no hand", handThrows(x, 0, 0), true);
    }

    private static void feedEdges() {
        SevenTable x = new SevenTable();
        for (int n = 20; n <= 940; n += 20) {
            is("feed", x.feed(-1, Integer.MIN_VALUE, Integer.MAX_VALUE, 0, 1), n);
        }
        is("the 48th", x.feed(1, 2, 3, 4, 5), N);
        is("none come", x.count(4), 940);
        is("cut", x.end(921), true);
        is("941 would be too many", x.feed(1, 2, 3, 4, 5), N);
        is("none come", x.count(4), 921);
        is("cut", x.end(920), true);
        is("940 are fine", x.feed(1, 2, 3, 4, 5), 940);
        is("cut", x.end(7), true);
        is("behind what is there", x.feed(1, 2, 3, 4, 5), 27);
    }

    private static void feedBytes() {
        SevenTable x = new SevenTable();
        x.feed(AGAIN, 0x6e3b2020, 0x20202020, 0x20202020, 0x20202020);
        is("the highest byte first", x.table(), 1);
        is("again", x.count(2), 1);
        SevenTable y = new SevenTable();
        y.feed(0x20202020, 0x20202020, 0x20202020, 0x20202020, 0x20206167);
        y.feed(0x61696e20, 0x3b0a0a0a, 0x0a0a0a0a, 0x0a0a0a0a, 0x0a0a0a0a);
        is("goes on from one to the next", y.table(), 1);
        SevenTable z = new SevenTable();
        z.feed(0x20202020, 0x20202020, 0x20202020, 0x20202020, 0x202020ff);
        is("a byte above 127 is no token", z.table(), -20);
        is("a byte above 127 is no token", z.fault(), 1);
    }

    private static void endEdges() {
        SevenTable x = new SevenTable();
        is("none of none", x.end(0), true);
        is("one of none", x.end(1), false);
        is("below 0", x.end(-1), false);
        x.feed(AGAIN, 0x6e3b3b3b, 0, 0, 0);
        is("all", x.end(20), true);
        is("one more", x.end(21), false);
        is("it stays", x.count(4), 20);
        is("below 0", x.end(-1), false);
        for (int wild : WILD) {
            is("end " + wild, x.end(wild), false);
        }
        is("it stays", x.count(4), 20);
        is("some", x.end(6), true);
        is("what was cut is gone", x.end(7), false);
        is("the first bytes", x.table(), 1);
        x.feed(AGAIN, 0x6e3b3b3b, 0, 0, 0);
        is("none", x.end(0), true);
        is("empty", x.count(4), 0);
    }

    private static void firstBytesAlone() {
        SevenTable x = new SevenTable();
        x.feed(AGAIN, 0x6e3b6161, 0x61616161, 0x61616161, 0x61616161);
        x.end(6);
        is("what was cut is not read", x.table(), 1);
        x.feed(AGAIN, 0x6e3b6161, 0x61616161, 0x61616161, 0x61616161);
        x.end(5);
        is("a token ends with the tape", x.table(), -6);
        // refill 9 and more digits that are cut, then a new sign behind.
        x.feed(0x72656669, 0x6c6c2039, 0x39393939, 0x39393939, 0x39393939);
        x.end(8);
        x.feed(0x3b202020, 0x20202020, 0x20202020, 0x20202020, 0x20202020);
        is("one number, then what came behind", x.table(), 1);
        is("refill", x.count(3), 9);
        write(x, "kinds 2;person a;person b;hand a 0 1;hand b 1 1;");
        x.table();
        x.feed(0x00016363, 0x63636363, 0x63636363, 0x63636363, 0x63636363);
        x.end(2);
        is("two bents alone", x.play(1), 1);
        x.feed(0x626f6f6b, 0x61616161, 0x61616161, 0x61616161, 0x61616161);
        x.end(4);
        is("a sentence alone", x.sentence(), 1);
        x.feed(0x61616161, 0x61616161, 0x61616161, 0x61616161, 0x61616161);
        x.end(0);
        is("an evening of no lines", x.evening(0), N);
    }

    private static void tableEdges() {
        SevenTable x = tell(THREE);
        sentenceOf(x, "held a");
        x.ask(0, 1, 0, 0);
        write(x, "kinds 2;person z;hand z 1 3;heap 0;");
        is("lines", x.table(), 4);
        is("no sentence", x.said(N), N);
        is("nobody asked", x.now(2) + x.person(0, 5) + x.person(0, 6), 0);
        is("one person", x.count(1), 1);
        is("no b any more", x.person(1, 0), N);
        is("no again", x.count(2), 0);
        is("no refill", x.count(3), 0);
        is("nothing known", x.known(0, 0) + x.known(0, 1), 0);
        is("its heap", x.heap(0) * 10 + x.heap(1), -1);
        isFresh("a new table", x);
        is("what asked() told stays", x.asked(1), 1);
        is("nothing of it can be undone", x.undo(), N);
        is("an empty tape is an empty table", x.table(), 0);
        is("no kinds", x.count(0), 0);
        is("no persons", x.count(1), 0);
        is("no cards", x.now(5), 0);
    }

    private static void tableFaultStays() {
        SevenTable x = tell(THREE);
        sentenceOf(x, "held a");
        x.ask(0, 1, 0, 0);
        String before = picture(x);
        write(x, "kinds 2;person z;hand z 0 3;again;refill 7;heap 1 1 1 1 1;");
        is("fault", x.table(), -57);
        is("fault", x.fault(), 5);
        same("it stays", picture(x), before);
        is("the tape is empty", x.count(4), 0);
        is("the asking can be undone still", x.undo(), 0);
        is("as it was", x.now(2), 0);
    }

    private static void faultEdges() {
        SevenTable x = new SevenTable();
        is("ahead of any", x.fault(), 0);
        write(x, "kinds 1;");
        x.table();
        is("of table()", x.fault(), 2);
        write(x, "z");
        is("-1000", x.evening(2), -1000);
        is("stays", x.fault(), 2);
        x.evening(0);
        is("of evening()", x.fault(), 3);
        x.play(0);
        x.deal(0, 0);
        x.undo();
        x.image(0);
        x.restore(0);
        is("stays through others", x.fault(), 3);
        x.sentence();
        is("of sentence()", x.fault(), 1);
        x.table();
        is("0 without one", x.fault(), 0);
        x.sentence();
        x.evening(1);
        is("0 without one", x.fault(), 0);
        x.table();
        x.sentence();
        write(x, "book");
        x.sentence();
        is("0 without one", x.fault(), 0);
        write(x, people(6) + "person z;");
        x.table();
        is("4", x.fault(), 4);
    }

    private static void handEdges() {
        SevenTable x = tell(THREE);
        String before = picture(x);
        is("the first ones", x.hand(0, 0), 2);
        is("the last ones", x.hand(2, 2), 1);
        is("p 3", handThrows(x, 3, 0), true);
        is("p -1", handThrows(x, -1, 0), true);
        is("kind 3", handThrows(x, 0, 3), true);
        is("kind -1", handThrows(x, 0, -1), true);
        for (int wild : WILD) {
            is("p", handThrows(x, wild, 0), true);
            is("kind", handThrows(x, 0, wild), true);
            is("both", handThrows(x, wild, wild), true);
        }
        same("nothing changes", picture(x), before);
        is("no kinds", handThrows(tell("person a;"), 0, 0), true);
        is("no persons", handThrows(tell("kinds 2;"), 0, 0), true);
    }

    private static void personEdges() {
        SevenTable x = tell("kinds 13;person a;person b;hand a 0 1;hand a 12 1;hand b 3 4;heap 5;");
        int[] a = {2, 0, 0b1000000000001, 2, 0, 0, 0, N};
        int[] b = {0, 1, 0, 0, 0, 0, 0, N};
        for (int what = 0; what < 8; what++) {
            is("a " + what, x.person(0, what), a[what]);
            is("b " + what, x.person(1, what), b[what]);
        }
        is("what -1", x.person(0, -1), N);
        is("what 8", x.person(0, 8), N);
        is("p -1", x.person(-1, 0), N);
        is("p 2", x.person(2, 0), N);
        for (int wild : WILD) {
            is("what", x.person(0, wild), N);
            is("p", x.person(wild, 0), N);
        }
        x.ask(0, 1, 0, 0);
        is("drew last", x.person(0, 7), 5);
        is("asked", x.person(0, 5), 1);
        x.ask(0, 1, 1, 0);
        is("refused does not count", x.person(0, 5), 1);
        SevenTable zero = tell("kinds 2;person a;person b;hand a 1 1;hand b 1 1;heap 0;");
        zero.ask(0, 1, 1, 1);
        is("drew 0 last", zero.person(0, 7), 0);
    }

    private static void bookEdges() {
        SevenTable x = tell("kinds 13;" + people(6) + "hand g 12 4;hand a 0 4;hand b 1 3;");
        is("the first", x.book(0), 0);
        is("the last", x.book(12), 5);
        is("three", x.book(1), N);
        is("kind 13", x.book(13), N);
        is("kind -1", x.book(-1), N);
        for (int wild : WILD) {
            is("kind", x.book(wild), N);
        }
        is("no kinds", new SevenTable().book(0), N);
    }

    private static void heapEdges() {
        SevenTable x = tell("kinds 2;person a;person b;hand a 0 1;hand b 1 1;heap 1 0;");
        is("the first", x.heap(0), 1);
        is("the last", x.heap(1), 0);
        is("behind", x.heap(2), N);
        is("ahead", x.heap(-1), N);
        for (int wild : WILD) {
            is("none such", x.heap(wild), N);
        }
        x.ask(0, 1, 0, 0);
        is("the first is drawn", x.heap(0), 0);
        is("behind", x.heap(1), N);
        x.ask(1, 0, 1, 1);
        is("empty", x.heap(0), N);
        is("empty", x.now(1), 0);
    }

    private static void nowEdges() {
        SevenTable x = tell(THREE);
        int[] due = {0, 3, 0, 0, 0, 12};
        for (int what = 0; what < 6; what++) {
            is("now " + what, x.now(what), due[what]);
        }
        is("6", x.now(6), N);
        is("-1", x.now(-1), N);
        for (int wild : WILD) {
            is("another", x.now(wild), N);
        }
        SevenTable over = tell("kinds 2;person a;hand a 0 4;hand a 1 4;");
        int[] then = {N, 0, 0, 2, 0, 0};
        for (int what = 0; what < 6; what++) {
            is("over " + what, over.now(what), then[what]);
        }
        x.ask(1, 0, 0, 0);
        x.ask(9, 0, 0, 0);
        is("refused ones do not count", x.now(2), 0);
    }

    private static void whyEdges() {
        SevenTable x = tell(THREE);
        is("p", x.why(-1, 1, 0), N);
        is("p", x.why(3, 1, 0), N);
        is("q", x.why(0, -1, 0), N);
        is("q", x.why(0, 3, 0), N);
        is("kind", x.why(0, 1, -1), N);
        is("kind", x.why(0, 1, 3), N);
        is("the last ones", x.why(2, 2, 2), 2);
        for (int wild : WILD) {
            is("p", x.why(wild, 1, 0), N);
            is("q", x.why(0, wild, 0), N);
            is("kind", x.why(0, 1, wild), N);
        }
        SevenTable over = tell("kinds 2;person a;person b;");
        is("over", over.why(0, 1, 0), 1);
        is("no such, though over", over.why(0, 2, 0), N);
        SevenTable alone = tell("kinds 2;person a;hand a 0 1;");
        is("alone", alone.why(0, 0, 0), 4);
    }

    private static void askEdges() {
        SevenTable x = tell(THREE);
        String before = picture(x);
        int[][] none = {{-1, 1, 0, 0}, {3, 1, 0, 0}, {0, -1, 0, 0}, {0, 3, 0, 0}, {0, 1, -1, 0}, {0, 1, 3, 0},
            {0, 1, 0, -1}, {0, 1, 0, 2}, {1, 1, 1, 2}};
        for (int[] a : none) {
            is("no such ones", x.ask(a[0], a[1], a[2], a[3]), N);
        }
        for (int wild : WILD) {
            is("p", x.ask(wild, 1, 0, 0), N);
            is("q", x.ask(0, wild, 0, 0), N);
            is("kind", x.ask(0, 1, wild, 0), N);
            is("lies", x.ask(0, 1, 0, wild), N);
        }
        is("not its turn", x.ask(1, 0, 0, 0), -4);
        is("has none", x.ask(0, 1, 2, 0), -5);
        is("itself", x.ask(0, 0, 0, 0), -6);
        same("refused calls change nothing", picture(x), before);
        is("nor can they be undone", x.undo(), N);
        SevenTable over = tell("kinds 2;person a;person b;hand a 0 4;");
        is("over", over.ask(0, 1, 0, 1), -3);
    }

    private static void askedEdges() {
        SevenTable x = tell(THREE);
        for (int what = -2; what < 10; what++) {
            is("ahead of any", x.asked(what), N);
        }
        x.ask(0, 0, 0, 0);
        evening(x, "a asks b 0 gives 1;", 0);
        x.games(0, 0, 1, 1);
        x.length(0, 0, 1, 1);
        x.reply(0, 1, 1);
        x.deal(1, 1);
        x.undo();
        is("still ahead of any", x.asked(0), N);
        evening(x, "a asks b 0 gives 2;", 1);
        is("a wrong evening lives none", x.asked(0), N);
        x.ask(0, 2, 1, 0);
        is("another what", x.asked(8), N);
        is("another what", x.asked(-1), N);
        for (int wild : WILD) {
            is("another what", x.asked(wild), N);
        }
        is("whom", x.asked(1), 2);
        x.undo();
        is("undo() leaves it", x.asked(1), 2);
        x.image(0);
        evening(x, "a asks b 0 gives 1;a asks b 0 gives 1;", 1);
        is("as far as it is right", x.asked(1) * 10 + x.asked(3), 11);
        is("another what behind it", x.asked(8) + x.asked(-1), -2);
        x.restore(0);
        is("restore() leaves it", x.asked(1), 1);
        is("play", play(x, "\0\0\0", 2), 2);
        is("the latest of play()", x.asked(4), 0);
        evening(x, "b asks a 0 no;", 1);
        is("no line was lived", x.asked(4), 0);
    }

    private static void askedOfABook() {
        SevenTable x = tell("kinds 3;person a;person b;hand a 0 3;hand a 1 3;hand b 0 1;hand b 2 1;heap 1 2;");
        x.ask(0, 1, 0, 0);
        is("by what was given", x.asked(5), 0);
        x.ask(0, 1, 1, 0);
        is("by what was drawn", x.asked(5), 1);
        is("the card", x.asked(4), 1);
        SevenTable other = tell("kinds 3;person a;person b;hand a 0 3;hand a 1 3;hand b 2 1;heap 1 2;");
        other.ask(0, 1, 0, 0);
        is("of another kind than it asked for", other.asked(5), 1);
        SevenTable none = tell("kinds 3;person a;person b;hand a 0 2;hand b 2 1;heap 0 2;");
        none.ask(0, 1, 0, 0);
        is("three make none", none.asked(5), N);
        SevenTable zero = tell("kinds 2;person a;person b;hand a 1 1;hand b 0 1;");
        zero.ask(0, 1, 1, 0);
        is("nothing came", zero.asked(4) * 10 + zero.asked(5), -11);
    }

    private static void askedRows() {
        SevenTable x = tell("kinds 3;" + people(3) + "hand a 2 1;hand a 1 1;hand b 1 1;hand d 2 1;hand d 0 3;heap 1 0 2;");
        askedIs(x.ask(0, 1, 1, 1), x, new int[] {0, 1, 1, 0, 1, N, 1, 1});
        askedIs(x.ask(1, 2, 1, 0), x, new int[] {1, 2, 1, 0, 0, N, 0, 1});
        askedIs(x.ask(2, 1, 0, 0), x, new int[] {2, 1, 0, 1, N, 0, 0, 1});
        askedIs(x.ask(2, 0, 2, 0), x, new int[] {2, 0, 2, 1, N, N, 0, 1});
        askedIs(x.ask(2, 1, 2, 0), x, new int[] {2, 1, 2, 0, 2, N, 0, 0});
        askedIs(x.ask(0, 1, 1, 0), x, new int[] {0, 1, 1, 1, N, N, 0, 2});
        askedIs(x.ask(0, 2, 1, 1), x, new int[] {0, 2, 1, 0, N, N, 0, 1});
    }

    private static void askedIs(int given, SevenTable x, int[] due) {
        is("given", given, due[3]);
        for (int what = 0; what < 8; what++) {
            is("asking " + x.now(2) + ", what " + what, x.asked(what), due[what]);
        }
    }

    private static void askedWhatAllKnew() {
        SevenTable x = tell("kinds 3;person a;person b;hand a 0 2;hand a 1 1;hand b 0 1;hand b 1 1;heap 2 2 2;");
        x.ask(0, 1, 0, 0);
        is("nothing sure", x.asked(7), 1);
        x.ask(0, 1, 0, 0);
        is("that there is none", x.asked(7), 0);
        x.ask(1, 0, 1, 0);
        is("nothing sure", x.asked(7), 1);
        x.ask(1, 0, 1, 0);
        is("that there is none", x.asked(7), 0);
        SevenTable y = tell("kinds 3;person a;person b;hand a 0 1;hand b 0 1;heap 2 2 2;");
        y.ask(0, 1, 0, 1);
        y.ask(1, 0, 0, 0);
        is("that there is one", y.asked(7), 2);
        SevenTable empty = tell("kinds 3;person a;person b;hand a 0 1;");
        empty.ask(0, 1, 0, 0);
        is("who has no card", empty.asked(7), 0);
        SevenTable one = tell("kinds 3;person a;person b;hand a 0 1;hand b 1 1;");
        one.ask(0, 1, 0, 0);
        is("who has one other", one.asked(7), 1);
    }

    private static void undoEdges() {
        SevenTable x = tell(THREE);
        is("none is", x.undo(), N);
        for (int i = 1; i <= 8; i++) {
            x.deal(1, i);
        }
        is("eight are kept", x.undo(), 7);
        for (int i = 6; i >= 0; i--) {
            is("more can be", x.undo(), i);
        }
        is("the table as told", x.now(5), 12);
        is("its hands", x.person(0, 0), 3);
        is("none is", x.undo(), N);
        for (int i = 1; i <= 9; i++) {
            x.deal(1 + i % 2, i);
        }
        is("the ninth is one too many", x.undo(), 7);
        for (int i = 6; i >= 0; i--) {
            is("more can be", x.undo(), i);
        }
        is("none is", x.undo(), N);
        is("as the first deal was", x.person(0, 0), 2);
        for (int i = 1; i <= 30; i++) {
            x.deal(3, i);
        }
        for (int i = 7; i >= 0; i--) {
            is("eight of thirty", x.undo(), i);
        }
        is("none is", x.undo(), N);
    }

    private static void undoEach() {
        SevenTable x = tell(THREE);
        String told = cards(x);
        x.ask(0, 1, 0, 0);
        String first = cards(x);
        x.ask(0, 2, 0, 0);
        is("ask", x.undo(), 1);
        same("as it was", cards(x), first);
        x.deal(2, 5);
        is("deal", x.undo(), 1);
        same("as it was", cards(x), first);
        is("play", play(x, "\0\0\0", 5), 5);
        is("play is one", x.undo(), 1);
        same("as it was", cards(x), first);
        is("evening", evening(x, "a asks d 0 no;a asks b 0 no;", 1), 1);
        is("an evening is one", x.undo(), 1);
        same("as it was", cards(x), first);
        is("the first", x.undo(), 0);
        same("as told", cards(x), told);
        is("none is", x.undo(), N);
        same("nothing changes", cards(x), told);
    }

    private static void undoNothing() {
        SevenTable x = tell(THREE);
        x.ask(0, 0, 0, 0);
        x.ask(0, 1, 0, 5);
        x.deal(0, 1);
        x.deal(5, 1);
        play(x, "\0\0", 4);
        play(x, "\0\0\0", 0);
        evening(x, "a asks b 0 gives 1;", 0);
        evening(x, "a asks b 0 no;", 1);
        evening(x, "a asks", 1);
        x.evening(1);
        x.games(0, 0, 1, 1);
        is("none of these is done", x.undo(), N);
        x.ask(0, 1, 0, 0);
        x.image(0);
        sentenceOf(x, "book");
        is("image and sentence stay out of it", x.undo(), 0);
        is("the sentence stays", x.said(N), 0);
        SevenTable over = tell("kinds 2;person a;person b;hand a 0 4;");
        is("nothing is played", play(over, "\0\0", 3), 0);
        is("nothing is undone", over.undo(), N);
    }

    private static void knownAndCan() {
        SevenTable x = tell(THREE);
        is("known, the last ones", x.known(2, 2), 0);
        is("can, the last ones", x.can(2, 2), 3);
        int[][] none = {{-1, 0}, {3, 0}, {0, -1}, {0, 3}};
        for (int[] a : none) {
            is("known", x.known(a[0], a[1]), N);
            is("can", x.can(a[0], a[1]), N);
        }
        for (int wild : WILD) {
            is("known p", x.known(wild, 0), N);
            is("known kind", x.known(0, wild), N);
            is("can p", x.can(wild, 0), N);
            is("can kind", x.can(0, wild), N);
        }
        SevenTable empty = tell(TWO + "hand a 0 1;");
        is("who has no card", empty.can(1, 0), 0);
        is("who has no card", empty.known(1, 0), 0);
        is("no kinds", tell("person a;").can(0, 0), N);
        is("no kinds", tell("person a;").known(0, 0), N);
    }

    private static void sweptEdges() {
        SevenTable x = tell(THREE);
        is("ahead of any", x.swept(0), N);
        x.sweep(3);
        is("NONE is none", x.swept(0), N);
        x.sweep(0);
        is("first", x.swept(0), 100);
        is("last", x.swept(1), 201);
        is("behind", x.swept(2), N);
        is("ahead", x.swept(-1), N);
        x.sweep(-1);
        x.gains(1);
        x.ask(0, 1, 0, 0);
        is("it stays", x.swept(0), 100);
        x.undo();
        x.table();
        is("it stays", x.swept(1), 201);
        SevenTable y = tell(TWO + "hand a 0 1;hand b 0 1;");
        y.sweep(0);
        is("one", y.swept(0), 100);
        write(y, TWO + "hand a 0 1;");
        y.table();
        y.sweep(1);
        is("none", y.swept(0), N);
    }

    private static void playEdges() {
        SevenTable x = tell(THREE);
        String before = picture(x);
        int[] wrong = {0, -1, 401, Integer.MAX_VALUE, Integer.MIN_VALUE};
        for (int n : wrong) {
            is("n " + n, play(x, "\0\0\0", n), N);
            is("the tape is empty", x.count(4), 0);
        }
        String[] rules = {"", "\0", "\0\0", "\0\0\0\0", "\4\0\0", "\0\4\0", "\0\0\4", "\0\0\u0080", "\u00ff\0\0", "000"};
        for (String rule : rules) {
            is("rules", play(x, rule, 1), N);
            is("the tape is empty", x.count(4), 0);
        }
        same("nothing changes", picture(x), before);
        is("nothing can be undone", x.undo(), N);
        is("one", play(x, "\0\3\2", 1), 1);
        is("askings", x.now(2), 1);
        is("one can be undone", x.undo(), 0);
        same("as it was, but for asked()", cards(x), before.substring(0, before.indexOf("\nasked")));
        is("one", play(x, "\0\3\2", 1), 1);
        is("the tape is empty", x.count(4), 0);
        int done = play(x, "\3\3\3", 400);
        is("400: to the end", x.now(0), N);
        is("so many", x.now(2), 1 + done);
        is("over", play(x, "\1\1\1", 400), 0);
        is("over", play(x, "\1\1\1", 401), N);
    }

    private static void playNobody() {
        is("nobody", new SevenTable().play(1), N);
        is("nobody", tell("kinds 2;").play(400), N);
        SevenTable alone = tell("kinds 2;person a;hand a 0 1;heap 0 0;");
        is("one alone asks nobody", play(alone, "\0", 3), 0);
        is("nor is that undone", alone.undo(), N);
        SevenTable six = tell("kinds 13;" + people(6));
        six.deal(8, 3);
        is("six", play(six, "\0\1\2\3\0\1", 7), 7);
        is("five bytes", play(six, "\0\1\2\3\0", 7), N);
        is("seven bytes", play(six, "\0\1\2\3\0\1\2", 7), N);
    }

    private static void dealEdges() {
        SevenTable x = tell("kinds 13;person a;");
        is("1", x.deal(1, 0), true);
        is("one card", x.person(0, 0), 1);
        is("9", x.deal(9, 0), true);
        String before = picture(x);
        is("0", x.deal(0, 0), false);
        is("10", x.deal(10, 0), false);
        is("-1", x.deal(-1, 0), false);
        for (int wild : WILD) {
            is("n", x.deal(wild, 0), false);
        }
        is("n times persons wraps", x.deal(1 << 31, 0), false);
        same("nothing changes", picture(x), before);
        is("no persons", tell("kinds 2;").deal(1, 1), false);
        is("no kinds", tell("person a;").deal(1, 1), false);
        is("nothing", new SevenTable().deal(1, 1), false);
        SevenTable six = tell("kinds 3;" + people(6));
        is("just so many", six.deal(2, 1), true);
        is("no heap is left", six.now(1), 0);
        is("not so many", six.deal(3, 1), false);
        SevenTable all = tell("kinds 13;" + people(6));
        is("eight each", all.deal(8, 1), true);
        is("four are left", all.now(1), 4);
        is("nine are too many", all.deal(9, 1), false);
    }

    private static void dealAnew() {
        SevenTable x = tell(THREE);
        sentenceOf(x, "place = 1");
        x.ask(0, 1, 0, 0);
        x.ask(0, 2, 0, 0);
        x.ask(0, 1, 1, 1);
        is("dealt", x.deal(1, 9), true);
        isFresh("dealt", x);
        is("all twelve", x.now(5), 12);
        is("no askings", x.now(2) + x.now(4) + x.person(0, 5) + x.person(0, 6) + x.person(0, 4), 0);
        is("no books", x.now(3), 0);
        is("drew nothing", x.person(0, 7), N);
        is("nothing known", x.known(0, 0) + x.known(0, 1), 0);
        is("the first one's turn", x.now(0), 0);
        is("the sentence stays", x.said(0), 1);
        is("again stays", x.count(2), 1);
        is("refill stays", x.count(3), 2);
        is("not all four need be told", tell(TWO + "hand a 0 1;").deal(4, 2), true);
        SevenTable four = tell("kinds 2;person a;person b;");
        int seed = seedWithFour();
        is("dealt", four.deal(4, seed), true);
        is("four of a kind are laid down", four.person(0, 1), 1);
        is("who has none: the turn goes on", four.now(0), four.person(1, 0) > 0 ? 1 : N);
    }

    private static void dealAnewBehindVain() {
        SevenTable x = tell("kinds 3;person a;person b;hand a 0 1;hand a 1 1;hand b 0 1;");
        x.ask(0, 1, 0, 1);
        x.ask(1, 0, 0, 1);
        is("over", x.now(0), N);
        is("caught", x.person(0, 4) * 10 + x.person(1, 4), 11);
        is("dealt", x.deal(6, 4), true);
        is("none in vain", x.now(4), 0);
        is("not over", x.now(0), 0);
        is("nobody is caught", x.person(0, 4) + x.person(1, 4), 0);
        isFresh("dealt", x);
        is("undone", x.undo(), 2);
        is("over again", x.now(0), N);
        is("in vain again", x.now(4), 2);
        is("caught again", x.person(0, 4) * 10 + x.person(1, 4), 11);
        write(x, "kinds 3;person a;person b;hand a 0 1;hand a 1 1;hand b 0 1;");
        x.table();
        isFresh("a new table", x);
        is("a new table: none in vain", x.now(4), 0);
        is("a new table: nobody is caught", x.person(0, 4) + x.person(1, 4), 0);
        is("a new table: not over", x.now(0), 0);
    }

    /** A seed by which the first of two gets all four cards of a kind. */
    private static int seedWithFour() {
        for (int seed = 0; seed < 100000; seed++) {
            int[] pack = EdgesOfPlayTest.shuffled(2, seed);
            if (pack[0] == pack[1] && pack[1] == pack[2] && pack[2] == pack[3]) {
                return seed;
            }
        }
        tellWrong("no such seed");
        return 0;
    }

    private static void gamesEdges() {
        SevenTable x = tell("kinds 3;person a;person b;hand a 0 1;");
        String before = picture(x);
        int[][] none = {{4, 0, 1}, {-1, 0, 1}, {0, 4, 1}, {0, -1, 1}, {0, 0, 0}, {0, 0, 31}, {0, 0, -1}};
        for (int[] a : none) {
            is("games", x.games(a[0], a[1], a[2], 1), N);
            is("length", x.length(a[0], a[1], a[2], 1), N);
        }
        for (int wild : WILD) {
            is("games", x.games(wild, 0, 1, 1), N);
            is("games", x.games(0, wild, 1, 1), N);
            is("games", x.games(0, 0, wild, 1), N);
            is("length", x.length(wild, 0, 1, 1), N);
            is("length", x.length(0, wild, 1, 1), N);
            is("length", x.length(0, 0, wild, 1), N);
            is("reply", x.reply(wild, 1, 1), N);
            is("reply", x.reply(0, wild, 1), N);
            is("any seed", x.games(3, 3, 1, wild) >= 0, true);
        }
        is("30 games", x.games(3, 3, 30, 1) >= 0, true);
        is("reply j", x.reply(4, 1, 1), N);
        is("reply j", x.reply(-1, 1, 1), N);
        is("reply n", x.reply(0, 0, 1), N);
        is("reply n", x.reply(0, 31, 1), N);
        is("reply, 30 games", x.reply(3, 30, 1) >= 0, true);
        same("nothing changes", picture(x), before);
        is("nothing can be undone", x.undo(), N);
    }

    private static void gamesPersons() {
        String[] few = {"", "kinds 3;", "kinds 3;person a;", "person a;person b;", "kinds 2;person a;person b;",
            "kinds 3;" + people(3), "kinds 4;" + people(4), "kinds 6;" + people(5), "kinds 7;" + people(6)};
        for (String text : few) {
            SevenTable x = tell(text);
            is("games of " + text, x.games(0, 0, 1, 1), N);
            is("length of " + text, x.length(0, 0, 1, 1), N);
            is("reply of " + text, x.reply(0, 1, 1), N);
        }
        String[] enough = {"kinds 3;person a;person b;", "kinds 4;" + people(3), "kinds 5;" + people(4),
            "kinds 7;" + people(5), "kinds 8;" + people(6)};
        for (String text : enough) {
            SevenTable x = tell(text);
            is("games of " + text, x.games(0, 0, 1, 1) >= 0, true);
            is("length of " + text, x.length(0, 0, 1, 1) > 0, true);
            is("reply of " + text, x.reply(0, 1, 1) >= 0, true);
        }
    }

    private static void gamesSeeds() {
        String text = "kinds 5;" + people(3) + "again;refill 3;";
        SevenTable x = tell(text);
        int top = Integer.MAX_VALUE - 1;
        int won = 0;
        int all = 0;
        for (int g = 0; g < 4; g++) {
            SevenTable y = tell(text);
            y.deal(5, top + g);
            all += play(y, "\1\2\2", 300);
            won += y.person(0, 1) > y.person(1, 1) && y.person(0, 1) > y.person(2, 1) ? 1 : 0;
        }
        is("seeds wrap", x.games(1, 2, 4, top), won);
        is("seeds wrap", x.length(1, 2, 4, top), all);
        is("one by one", x.games(1, 2, 1, top) + x.games(1, 2, 1, top + 1) + x.games(1, 2, 1, top + 2)
                + x.games(1, 2, 1, top + 3), won);
    }

    private static void gamesBehind() {
        SevenTable x = tell("kinds 5;" + people(3) + "again;refill 3;");
        int wins = x.games(1, 2, 9, 5);
        int all = x.length(1, 2, 9, 5);
        int best = x.reply(2, 9, 5);
        x.image(0);
        write(x, "kinds 13;" + people(2) + "hand a 3 2;heap 4;");
        x.table();
        is("of another table", x.length(1, 2, 9, 5) == all, false);
        write(x, "kinds 2;person q;hand q 0 9;");
        x.table();
        x.restore(0);
        is("wins again", x.games(1, 2, 9, 5), wins);
        is("length again", x.length(1, 2, 9, 5), all);
        is("reply again", x.reply(2, 9, 5), best);
        x.deal(5, 77);
        play(x, "\0\0\0", 9);
        is("whatever lies on the table", x.length(1, 2, 9, 5), all);
        write(x, "kinds 2;person q;hand q 0 9;");
        x.table();
        is("behind a fault", x.length(1, 2, 9, 5), all);
        is("behind a fault, the tape being judged", evening(x, "a asks b 0 no;z", 0) < -1, true);
        is("behind it", x.games(1, 2, 9, 5), wins);
    }

    private static void gamesWon() {
        SevenTable x = tell("kinds 4;person a;person b;");
        int like = 0;
        int ahead = 0;
        for (int seed = 0; seed < 30; seed++) {
            SevenTable y = tell("kinds 4;person a;person b;");
            y.deal(5, seed);
            play(y, "\0\0", 300);
            like += y.person(0, 1) == y.person(1, 1) ? 1 : 0;
            ahead += y.person(0, 1) > y.person(1, 1) ? 1 : 0;
        }
        is("as many are not more", x.games(0, 0, 30, 0), ahead);
        is("some have as many", like > 0, true);
        // Few books are made there: one of four kinds, and PERSON 0 has it; then two of four.
        SevenTable few = tell("kinds 4;" + people(3));
        is("one book is more than none", few.games(0, 2, 1, 3), 1);
        is("two are more than none", few.games(0, 2, 1, 334), 1);
        int best = 0;
        for (int i = 1; i < 4; i++) {
            best = x.games(i, 0, 30, 0) > x.games(best, 0, 30, 0) ? i : best;
        }
        is("of like ones the first", x.reply(0, 30, 0), best);
    }

    private static void replyLike() {
        // All is dealt, and the first one to ask takes what the other one has, whatever its bent: like ones.
        SevenTable x = tell("kinds 3;person a;person b;");
        for (int seed = 0; seed < 20; seed++) {
            int most = -1;
            int first = -1;
            for (int i = 0; i < 4; i++) {
                int wins = x.games(i, 2, 1, seed);
                if (wins > most) {
                    most = wins;
                    first = i;
                }
            }
            is("the first of like ones, seed " + seed, x.reply(2, 1, seed), first);
        }
    }

    private static void leaderEdges() {
        is("no persons", new SevenTable().leader(), N);
        is("no persons", tell("kinds 2;").leader(), N);
        is("one", tell("person a;").leader(), 0);
        is("like ones", tell(people(6)).leader(), 0);
        is("the last", tell("kinds 3;" + people(6) + "hand g 2 4;").leader(), 5);
        is("like ones: the first", tell("kinds 3;" + people(6) + "hand g 2 4;hand e 0 4;").leader(), 3);
        is("more", tell("kinds 3;" + people(6) + "hand g 2 4;hand g 1 4;hand e 0 4;").leader(), 5);
    }

    private static void eveningEdges() {
        SevenTable x = tell(THREE);
        evening(x, "a asks b 0 gives 1;a asks b 0 gives 1;", 0);
        write(x, "a asks b 0 gives 1;");
        String before = picture(x);
        int[] lives = {-1, 2, 3, -1000, Integer.MIN_VALUE, Integer.MAX_VALUE};
        for (int l : lives) {
            is("another lives", x.evening(l), -1000);
        }
        is("the tape stays", x.count(4), 19);
        same("nothing changes", picture(x), before);
        is("judged", x.evening(0), N);
        is("the tape is empty", x.count(4), 0);
        is("all stays", x.now(2), 0);
        is("lived", evening(x, "a asks b 0 gives 1;", 1), N);
        is("lived", x.now(2), 1);
        is("from now on", evening(x, "a asks d 0 no;a asks d 1 gives 2;", 0), N);
        is("no lines", x.evening(0), N);
        is("no lines", x.evening(1), N);
    }

    private static void eveningWrong() {
        SevenTable x = tell(THREE);
        is("the first line", evening(x, "b asks a 0 gives 2;", 0), 0);
        is("the second line", evening(x, "a asks b 0 gives 1;a asks b 2 no;", 0), 1);
        is("none has none", x.heard(0), 3);
        is("another answer: more", evening(x, "a asks b 0 gives 2;", 0), 0);
        is("5", x.heard(0), 5);
        is("another answer: no", evening(x, "a asks b 0 no;", 0), 0);
        is("5", x.heard(0), 5);
        is("another answer: gives", evening(x, "a asks b 1 gives 1;", 0), 0);
        is("5", x.heard(0), 5);
        is("fewer", evening(x, "a asks d 1 gives 1;", 0), 0);
        is("5", x.heard(0), 5);
        is("itself ahead of the answer", evening(x, "a asks a 0 no;", 0), 0);
        is("4", x.heard(0), 4);
        is("turn ahead of the answer", evening(x, "b asks a 0 no;", 0), 0);
        is("2", x.heard(0), 2);
        is("all stays", x.now(2), 0);
        is("lived as far as it is not wrong", evening(x, "a asks b 0 gives 1;a asks d 0 no;a asks d 0 no;", 1), 2);
        is("two are lived", x.now(2), 2);
        is("the first is wrong: none is lived", evening(x, "b asks a 0 no;a asks b 1 no;", 1), 0);
        is("two still", x.now(2), 2);
        SevenTable over = tell("kinds 2;person a;person b;hand a 0 3;hand b 0 1;");
        is("over at the second line", evening(over, "a asks b 0 gives 1;b asks b 1 no;", 1), 1);
        is("1", over.heard(0), 1);
    }

    private static void heardEdges() {
        SevenTable x = tell(THREE);
        for (int what = -1; what < 5; what++) {
            is("ahead of any", x.heard(what), N);
        }
        evening(x, "a asks", 0);
        x.evening(9);
        is("still ahead of any", x.heard(1), N);
        evening(x, "a asks b 0 gives 1;a asks d 0 no;b asks a 0 no;", 0);
        int[] due = {2, 2, 1, 0};
        for (int what = 0; what < 4; what++) {
            is("heard " + what, x.heard(what), due[what]);
        }
        is("4", x.heard(4), N);
        is("-1", x.heard(-1), N);
        for (int wild : WILD) {
            is("another", x.heard(wild), N);
        }
        evening(x, "z", 1);
        x.evening(-1000);
        is("a fault and -1000 leave it", x.heard(1), 2);
        x.evening(1);
        int[] empty = {0, 0, 0, 0};
        for (int what = 0; what < 4; what++) {
            is("an empty one " + what, x.heard(what), empty[what]);
        }
        SevenTable over = tell("kinds 2;person a;person b;hand a 0 3;hand b 0 1;");
        evening(over, "a asks b 0 gives 1;", 0);
        is("over then", over.heard(3), N);
        is("books then", over.heard(2), 1);
        is("not over now", over.now(0), 0);
    }

    private static void sentenceEdges() {
        SevenTable x = tell(THREE);
        is("one", sentenceOf(x, "book"), 1);
        is("none of which", x.said(N), 0);
        is("two", sentenceOf(x, "not book"), 2);
        is("all", x.said(N), 3);
        is("a fault", sentenceOf(x, "not book or"), -12);
        is("it stays", x.said(N), 3);
        is("an empty tape", x.sentence(), -1);
        is("it stays", x.said(N), 3);
        is("each not, bracket and other one", sentenceOf(x, "not (not book and (held a or known b)) or place > 1"), 8);
        is("the tape is empty", x.count(4), 0);
        for (int i = 0; i < 20; i++) {
            is("one behind another", sentenceOf(x, times("book or ", 17) + "held a and place > " + i % 2), 19);
            is("the latest", x.said(N), 1 - i % 2);
        }
        SevenTable none = new SevenTable();
        is("without a table", sentenceOf(none, "book"), 1);
        is("of no kinds", none.said(N), 0);
        is("of no kinds", none.said(0), N);
    }

    private static void saidEdges() {
        SevenTable x = tell(THREE);
        is("no sentence", x.said(N), N);
        is("no sentence", x.said(0), N);
        sentenceOf(x, "place > 0");
        is("how many", x.said(N), 2);
        is("the first", x.said(0), 1);
        is("the last", x.said(1), 2);
        is("behind", x.said(2), N);
        is("k -2", x.said(-2), N);
        for (int wild : WILD) {
            is("none such", x.said(wild), N);
        }
        sentenceOf(x, "held a");
        x.ask(0, 1, 0, 0);
        x.ask(0, 2, 0, 0);
        is("as it is now", x.said(N), 1);
        x.undo();
        is("as it is again", x.said(N), 2);
        x.deal(1, 1);
        is("as it is dealt", x.said(N), 1);
        x.table();
        is("a new table: no sentence", x.said(N), N);
    }

    private static void imageEdges() {
        SevenTable x = tell(THREE);
        int[] none = {-1, 2, Integer.MIN_VALUE, Integer.MAX_VALUE};
        for (int k : none) {
            is("image " + k, x.image(k), false);
            is("restore " + k, x.restore(k), false);
        }
        is("nothing is kept in 0", x.restore(0), false);
        is("nothing is kept in 1", x.restore(1), false);
        x.ask(0, 1, 0, 0);
        is("a refused restore leaves what can be undone", x.restore(1), false);
        is("undo", x.undo(), 0);
        is("kept in 1", x.image(1), true);
        is("nothing is kept in 0", x.restore(0), false);
        x.ask(0, 1, 0, 0);
        is("kept in 0", x.image(0), true);
        is("an image leaves what can be undone", x.undo(), 0);
        is("restore 0", x.restore(0), true);
        is("askings", x.now(2), 1);
        is("restore 1", x.restore(1), true);
        is("askings", x.now(2), 0);
        SevenTable empty = new SevenTable();
        is("an empty one is kept", empty.image(0), true);
        write(empty, THREE);
        empty.table();
        is("and restored", empty.restore(0), true);
        is("no kinds", empty.count(0), 0);
        is("no persons", empty.count(1), 0);
    }

    private static void restoreEdges() {
        SevenTable x = tell(THREE);
        sentenceOf(x, "place = 2");
        x.ask(0, 1, 0, 1);
        x.ask(0, 2, 1, 0);
        String kept = cards(x);
        x.image(0);
        write(x, "kinds 13;" + people(6) + "hand g 12 3;heap 11;");
        x.table();
        sentenceOf(x, "held g");
        x.ask(5, 0, 12, 0);
        x.sweep(5);
        evening(x, "", 0);
        write(x, "kinds 1;");
        x.table();
        write(x, "xyz");
        is("restored", x.restore(0), true);
        same("as kept", cards(x), kept);
        is("the tape stays", x.count(4), 3);
        is("fault() stays", x.fault(), 2);
        is("asked() stays", x.asked(0), 5);
        is("heard() stays", x.heard(3), 5);
        is("nothing can be undone", x.undo(), N);
        x.ask(0, 1, 0, 0);
        is("but what is done then", x.undo(), 0);
        same("as kept", cards(x), kept);
        write(x, "kinds 2;");
        x.table();
        is("again", x.restore(0), true);
        same("as kept", cards(x), kept);
        SevenTable none = tell(THREE);
        none.image(1);
        sentenceOf(none, "book");
        none.restore(1);
        is("no sentence was kept", none.said(N), N);
    }

    private static void countEdges() {
        SevenTable x = tell("kinds 13;" + people(6) + "again;refill 9;");
        int[] due = {13, 6, 1, 9, 0};
        for (int what = 0; what < 5; what++) {
            is("count " + what, x.count(what), due[what]);
        }
        is("5", x.count(5), N);
        is("-1", x.count(-1), N);
        for (int wild : WILD) {
            is("another", x.count(wild), N);
        }
        x.feed(0, 0, 0, 0, 0);
        is("bytes", x.count(4), 20);
        x.end(19);
        is("bytes", x.count(4), 19);
    }

    /** Thirteen kinds and six persons: of each kind 1, 1 and 2 cards in three hands that go round. */
    private static int[][] fullHands() {
        int[][] hands = new int[6][13];
        for (int kind = 0; kind < 13; kind++) {
            hands[kind % 6][kind] = 1;
            hands[(kind + 1) % 6][kind] = 1;
            hands[(kind + 2) % 6][kind] = 2;
        }
        return hands;
    }

    private static String fullText(int[][] hands) {
        StringBuilder text = new StringBuilder("kinds 13;" + people(6));
        for (int p = 0; p < 6; p++) {
            for (int kind = 0; kind < 13; kind++) {
                if (hands[p][kind] > 0) {
                    text.append("hand ").append("abdefg".charAt(p)).append(' ').append(kind).append(' ')
                            .append(hands[p][kind]).append(';');
                }
            }
        }
        return text.toString();
    }

    private static void fullSize() {
        int[][] hands = fullHands();
        SevenTable x = tell(fullText(hands));
        for (int p = 0; p < 6; p++) {
            int cards = 0;
            int bits = 0;
            int kinds = 0;
            for (int kind = 0; kind < 13; kind++) {
                is("hand", x.hand(p, kind), hands[p][kind]);
                cards += hands[p][kind];
                bits |= hands[p][kind] > 0 ? 1 << kind : 0;
                kinds += hands[p][kind] > 0 ? 1 : 0;
                is("can", x.can(p, kind) == x.person(p, 0) && x.known(p, kind) == 0, true);
            }
            is("cards of " + p, x.person(p, 0), cards);
            is("kinds of " + p, x.person(p, 2), bits);
            is("gains of " + p, x.gains(p), kinds);
            is("two to ask for each kind", x.sweep(p), 2 * kinds);
            is("behind", x.swept(2 * kinds), N);
            is("books of " + p, x.person(p, 1), 0);
        }
        is("all cards", x.now(5), 52);
        is("of all kinds", sentenceOf(x, "hands = 4 and most = 2 and not book and heaped = 0"), 5);
        is("of all kinds", x.said(N), 13);
        is("the last", x.said(12), 12);
        is("behind", x.said(13), N);
        is("too many others", oddsThrow(x, 0, 1, 0, 0), true);
        is("nobody to ask", x.whom(5), N);
        // The last one has 4, 5, 10 and 11, and two of 3 and 9.
        is("the least kind, round to a", x.bent(5, 0), 3);
        is("as 0", x.bent(5, 1), 3);
        is("the most of 3; d has most cards, ten", x.bent(5, 2), 203);
        is("as 0", x.bent(5, 3), 3);
    }

    private static void fullPlay() {
        SevenTable x = tell(fullText(fullHands()));
        int done = play(x, "\0\1\2\3\0\1", 400);
        is("over", x.now(0), N);
        is("askings", x.now(2), done);
        int books = 0;
        int asked = 0;
        for (int p = 0; p < 6; p++) {
            int own = 0;
            for (int kind = 0; kind < 13; kind++) {
                own += x.book(kind) == p ? 1 : 0;
            }
            is("books of " + p, x.person(p, 1), own);
            books += own;
            asked += x.person(p, 5);
        }
        is("all books", x.now(3), books);
        is("all askings", asked, done);
        is("the rest", x.now(5), 52 - 4 * books);
        is("the leader has most", x.person(x.leader(), 1) * 6 >= books, true);
    }

    private static void fullOdds() {
        SevenTable x = tell("kinds 13;" + people(6) + "hand a 7 1;hand a 12 1;hand b 8 1;hand b 12 1;hand d 9 1;hand d 12 1;"
                + "hand e 10 1;hand e 7 1;hand f 11 1;hand f 8 1;hand g 9 1;hand g 12 1;heap 10 11;");
        // g sees a 9 and a 12; of twelve others three are 12 and one is 9, and each one has two of them.
        for (int p = 0; p < 5; p++) {
            oddsAre(x, 5, p, 12, 5, 11);
            oddsAre(x, 5, p, 9, 1, 6);
            oddsAre(x, 5, p, 0, 0, 1);
        }
        nextIs(x, 5, 12, 1, 4);
        nextIs(x, 5, 6, 0, 1);
        is("the first", x.whom(5), 12);
        is("b, for who is first itself", x.whom(0), 112);
        is("kind 12 ahead of 7", x.odds(0, 1, 12, 1) * 100 + x.odds(0, 1, 7, 1), 1106);
    }

    private static void longUse() {
        SevenTable x = new SevenTable();
        write(x, "kinds 13;" + people(6));
        int calls = 6;
        x.table();
        for (; calls < 512; calls++) {
            int seed = calls;
            boolean fine = calls % 3 == 0 ? x.deal(8, seed) : calls % 3 == 1 ? x.reply(calls % 4, 30, seed) >= 0
                    : x.length(calls % 4, 3, 30, seed) > 30;
            is("call " + calls, fine, true);
        }
    }

    public static void main(String[] args) {
        sentence("An empty TABLE; an empty tape.", EdgesOfCallsTest::newObject);
        sentence("NONE, and none come, if it would have more than 940", EdgesOfCallsTest::feedEdges);
        sentence("Twenty bytes come behind the tape, of each number the highest first", EdgesOfCallsTest::feedBytes);
        sentence("false, if it has not so many, or n is below 0", EdgesOfCallsTest::endEdges);
        sentence("The tape has its first n bytes alone", EdgesOfCallsTest::firstBytesAlone);
        sentence("A new TABLE: no SENTENCE", EdgesOfCallsTest::tableEdges);
        sentence("-1 less the place of a FAULT: it stays", EdgesOfCallsTest::tableFaultStays);
        sentence("0 without one and ahead of any", EdgesOfCallsTest::faultEdges);
        sentence("Cards of a KIND in a hand. NoSuchElementException: no such ones", EdgesOfCallsTest::handEdges);
        sentence("7 the KIND that it drew last (NONE). NONE, too: no such ones", EdgesOfCallsTest::personEdges);
        sentence("NONE: no BOOK, no such one", EdgesOfCallsTest::bookEdges);
        sentence("NONE: there is none such", EdgesOfCallsTest::heapEdges);
        sentence("5 cards in play that are in no BOOK. NONE for another what", EdgesOfCallsTest::nowEdges);
        sentence("(0: it can); NONE: no such ones", EdgesOfCallsTest::whyEdges);
        sentence("-2 less why not; NONE: no such ones", EdgesOfCallsTest::askEdges);
        sentence("NONE: another what, or ahead of any", EdgesOfCallsTest::askedEdges);
        sentence("5 the KIND of a BOOK that its hand laid down by what came (not by a refill behind that; NONE)",
                EdgesOfCallsTest::askedOfABook);
        sentence("Of the latest asking that was done", EdgesOfCallsTest::askedRows);
        sentence("7 what all knew ahead of it: 0 that there is none, 1 nothing sure, 2 that there is one",
                EdgesOfCallsTest::askedWhatAllKnew);
        sentence("how many more can be (8 at most are kept); NONE: none is", EdgesOfCallsTest::undoEdges);
        sentence("The latest of ask() that was done, deal(), play(), evening that was lived is undone",
                EdgesOfCallsTest::undoEach);
        sentence("NONE: none is.", EdgesOfCallsTest::undoNothing);
        sentence("How many of the others of a PERSON can be of a KIND; NONE: no such ones", EdgesOfCallsTest::knownAndCan);
        sentence("NONE: none such, or ahead of any", EdgesOfCallsTest::sweptEdges);
        sentence("n (1 to 400) askings, who is on TURN by the tape's BENTS (a byte for each PERSON)",
                EdgesOfCallsTest::playEdges);
        sentence("how many were done; NONE: not as told", EdgesOfCallsTest::playNobody);
        sentence("false: no PERSONS, no KINDS, there are not so many", EdgesOfCallsTest::dealEdges);
        sentence("All cards are DEALT anew by a seed", EdgesOfCallsTest::dealAnew);
        sentence("`boolean deal(int n, int seed)`: All cards are DEALT anew", EdgesOfCallsTest::dealAnewBehindVain);
        sentence("NONE: not as told, fewer than two PERSONS, not so many cards", EdgesOfCallsTest::gamesEdges);
        sentence("fewer than two PERSONS, not so many cards", EdgesOfCallsTest::gamesPersons);
        sentence("games DEALT by seeds x, x and 1, ..", EdgesOfCallsTest::gamesSeeds);
        sentence("5 to each", EdgesOfCallsTest::gamesBehind);
        sentence("in how many PERSON 0 has more BOOKS than each other one", EdgesOfCallsTest::gamesWon);
        sentence("The BENT that wins most of n such games against j (of like ones the first); NONE likewise",
                EdgesOfCallsTest::replyLike);
        sentence("Who has most BOOKS (of like ones the first); NONE: no PERSONS", EdgesOfCallsTest::leaderEdges);
        sentence("-1000: another lives (the tape, fault() stay)", EdgesOfCallsTest::eveningEdges);
        sentence("the LINE that is WRONG; NONE: none", EdgesOfCallsTest::eveningWrong);
        sentence("Of the latest evening() that had no FAULT (and was not -1000)", EdgesOfCallsTest::heardEdges);
        sentence("how many ONES (each not, bracket and other one)", EdgesOfCallsTest::sentenceEdges);
        sentence("how many (k NONE), or the k-th. NONE: there is no SENTENCE, none such", EdgesOfCallsTest::saidEdges);
        sentence("are kept in place k (0, 1): true; false: no such one", EdgesOfCallsTest::imageEdges);
        sentence("the tape, and what other calls told last, stays; nothing can be undone", EdgesOfCallsTest::restoreEdges);
        sentence("4 bytes of the tape. NONE for another what", EdgesOfCallsTest::countEdges);
        sentence("'kinds' K (2 to 13", EdgesOfCallsTest::fullSize);
        sentence("6 PERSONS at most", EdgesOfCallsTest::fullPlay);
        sentence("ODDS for onlooker o that PERSON q has some of a KIND", EdgesOfCallsTest::fullOdds);
        sentence("An object is used for at most 512 calls", EdgesOfCallsTest::longUse);
        finish("edges of calls");
    }
}
