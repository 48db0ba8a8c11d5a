/** The edges of the game itself, of what is known and of what is worked out: sections 2 and 3 of the Terms. */
public final class EdgesOfPlayTest extends Check {

    private static void fourAtFirst() {
        SevenTable x = tell("kinds 4;person a;person b;hand b 0 4;hand a 1 4;hand b 2 4;hand a 3 3;hand b 3 1;");
        int[] due = {1, 0, 1, N};
        for (int kind = 0; kind < 4; kind++) {
            is("book of " + kind, x.book(kind), due[kind]);
        }
        is("a's", x.person(0, 1), 1);
        is("b's", x.person(1, 1), 2);
        is("three stay in the hand", x.person(0, 0), 3);
        is("others", x.person(0, 3), 3);
        is("nobody was caught", x.person(0, 4) + x.person(1, 4), 0);
        is("cards in no book", x.now(5), 4);
        SevenTable heaped = tell("kinds 2;person a;hand a 1 1;heap 0 0 0 0;");
        is("four in the heap are none", heaped.book(0), N);
    }

    private static void firstTurn() {
        is("the first one's", tell("kinds 2;person a;person b;hand a 0 1;hand b 1 1;").now(0), 0);
        is("who has none: the next", tell("kinds 2;person a;person b;hand b 1 1;heap 0 0;").now(0), 1);
        is("the last of six", tell("kinds 2;" + people(6) + "hand g 1 1;").now(0), 5);
        is("laid all down: the next", tell("kinds 2;person a;person b;hand a 0 4;hand b 1 1;").now(0), 1);
        is("nobody has a card", tell("kinds 2;" + people(6)).now(0), N);
        is("nobody, but a heap", tell("kinds 2;person a;person b;heap 0 1;").now(0), N);
        is("nobody, refill but no heap", tell("kinds 2;person a;person b;refill 3;").now(0), N);
        is("all laid down", tell("kinds 2;person a;person b;hand a 0 4;hand b 1 4;").now(0), N);
        is("no persons", tell("kinds 2;heap 0;refill 2;").now(0), N);
        is("one alone", tell("kinds 2;person a;hand a 1 1;").now(0), 0);
    }

    private static void refillAtFirst() {
        SevenTable x = tell("kinds 2;person a;person b;hand b 0 1;heap 1 0 1;refill 2;");
        is("draws two", x.person(0, 0), 2);
        is("its turn", x.now(0), 0);
        is("each one more of the others", x.person(0, 3), 2);
        is("that can be any", x.can(0, 0) * 10 + x.can(0, 1), 22);
        is("drew last", x.person(0, 7), 0);
        is("the heap", x.now(1), 1);
        is("who is not on turn draws nothing", x.person(1, 0), 1);
        SevenTable one = tell("kinds 2;person a;person b;hand a 0 1;heap 1 0 1;refill 2;");
        is("who has a card draws nothing", one.person(0, 0), 1);
        SevenTable two = tell("kinds 2;person a;person b;heap 1 0;refill 2;");
        is("just as many", two.person(0, 0), 2);
        is("none left", two.now(1), 0);
        SevenTable nine = tell("kinds 3;person a;person b;heap 0 1 2 0 1 2 0 1 2 1;refill 9;");
        is("nine", nine.person(0, 0), 9);
        SevenTable none = tell("kinds 2;person a;person b;heap 1 0;refill 0;");
        is("refill 0", none.person(0, 0), 0);
        is("over", none.now(0), N);
    }

    private static void asManyAsThereAre() {
        SevenTable x = tell("kinds 2;person a;person b;heap 1 0 1;refill 9;");
        is("three", x.person(0, 0), 3);
        is("none left", x.now(1), 0);
        is("its turn", x.now(0), 0);
        SevenTable one = tell("kinds 2;person a;person b;heap 1;refill 2;");
        is("one", one.person(0, 0), 1);
    }

    private static void refillAgain() {
        SevenTable x = tell("kinds 3;person a;person b;heap 0 0 0 0 1 2;refill 4;");
        is("a book", x.book(0), 0);
        is("then two more", x.person(0, 0), 2);
        is("drew last", x.person(0, 7), 2);
        SevenTable twice = tell("kinds 3;person a;person b;heap 0 0 0 0 1 1 1 1 2;refill 4;");
        is("two books", twice.person(0, 1), 2);
        is("then one more", twice.person(0, 0), 1);
        SevenTable all = tell("kinds 3;person a;person b;hand b 2 1;heap 0 0 0 0 1 1 1 1;refill 8;");
        is("two books", all.person(0, 1), 2);
        is("none left: the next", all.now(0), 1);
        SevenTable part = tell("kinds 2;person a;person b;heap 0 0 0 0 1 1;refill 5;");
        is("one is left of five, no more are drawn", part.person(0, 0), 1);
        is("the heap", part.now(1), 1);
        SevenTable few = tell("kinds 2;person a;person b;heap 0 0 0 0 1 1;refill 3;");
        is("three do", few.person(0, 0), 3);
        SevenTable over = tell("kinds 2;person a;person b;heap 0 0 0 0;refill 4;");
        is("all laid down: over", over.now(0), N);
        is("a's book", over.leader() * 10 + over.person(0, 1), 1);
    }

    private static void refillWhileTurn() {
        SevenTable x = tell("kinds 3;person a;person b;hand a 0 3;hand b 0 1;hand b 1 1;heap 2 1 2;refill 2;");
        is("gives", x.ask(0, 1, 0, 0), 1);
        is("a lays down, draws two", x.person(0, 0), 2);
        is("its turn stays", x.now(0), 0);
        is("given, not drawn", x.asked(4), N);
        is("others", x.person(0, 3), 2);
        SevenTable gave = tell("kinds 3;person a;person b;hand a 0 2;hand b 0 1;heap 2 1 2;refill 2;");
        is("gives all that it has", gave.ask(0, 1, 0, 0), 1);
        is("but draws only when it is its turn", gave.person(1, 0), 0);
        is("a draws", gave.ask(0, 1, 0, 0), 0);
        is("b's turn: it draws what there is", gave.person(1, 0), 2);
        is("b's turn", gave.now(0), 1);
        SevenTable shown = tell("kinds 3;person a;person b;hand a 0 3;hand b 1 1;heap 0 2 2 1;again;refill 2;");
        is("says no", shown.ask(0, 1, 0, 0), 0);
        is("shows the fourth", shown.asked(5), 0);
        is("its turn stays: draws two", shown.person(0, 0), 2);
        is("its turn stays", shown.now(0), 0);
    }

    private static void stillWithout() {
        SevenTable x = tell("kinds 3;" + people(4) + "hand b 0 3;hand e 0 1;hand d 1 1;");
        is("b's turn", x.now(0), 1);
        is("gives", x.ask(1, 3, 0, 0), 1);
        is("b has none: d's", x.now(0), 2);
        is("in vain", x.ask(2, 0, 1, 0), 0);
        is("nobody else has one: round to d", x.now(0), 2);
        SevenTable last = tell("kinds 3;" + people(3) + "hand d 0 1;hand b 1 1;hand a 2 1;heap 2 2 2;");
        last.ask(0, 1, 2, 0);
        last.ask(1, 2, 1, 0);
        is("the last one's", last.now(0), 2);
        last.ask(2, 0, 0, 0);
        is("round to the first", last.now(0), 0);
        SevenTable draws = tell("kinds 3;" + people(3) + "hand a 0 1;heap 1 1 2;refill 1;");
        draws.ask(0, 1, 0, 0);
        is("b draws one", draws.person(1, 0), 1);
        is("b's turn", draws.now(0), 1);
        is("d draws not yet", draws.person(2, 0), 0);
    }

    private static void nobodyHasACard() {
        SevenTable x = tell("kinds 2;person a;person b;hand a 0 3;hand b 0 1;heap 1;");
        is("gives", x.ask(0, 1, 0, 0), 1);
        is("over, though the heap has one", x.now(0), N);
        is("why", x.why(0, 1, 0), 1);
        is("ask", x.ask(0, 1, 0, 0), -3);
        is("not in vain", x.now(4), 0);
        SevenTable y = tell("kinds 2;person a;person b;hand a 0 3;hand b 0 1;heap 1;refill 1;");
        y.ask(0, 1, 0, 0);
        is("not over with a refill", y.now(0), 0);
    }

    private static void whyTheLeast() {
        SevenTable over = tell("kinds 2;person a;person b;hand a 0 4;");
        is("over, itself, none, not its turn", over.why(1, 1, 1), 1);
        is("over", over.ask(0, 0, 0, 0), -3);
        SevenTable x = tell("kinds 2;person a;person b;hand a 0 1;hand b 0 1;");
        is("not its turn, none, itself", x.why(1, 1, 1), 2);
        is("not its turn, none", x.why(1, 0, 1), 2);
        is("not its turn, itself", x.why(1, 1, 0), 2);
        is("not its turn", x.why(1, 0, 0), 2);
        is("none, itself", x.why(0, 0, 1), 3);
        is("none", x.why(0, 1, 1), 3);
        is("itself", x.why(0, 0, 0), 4);
        is("it can", x.why(0, 1, 0), 0);
        is("not its turn", x.ask(1, 1, 1, 1), -4);
        is("none", x.ask(0, 0, 1, 1), -5);
        is("itself", x.ask(0, 0, 0, 1), -6);
    }

    private static void givesAll() {
        for (int n = 1; n <= 3; n++) {
            SevenTable x = tell("kinds 2;person a;person b;hand a 0 1;hand a 1 1;hand b 0 " + n + ";hand b 1 1;heap 1;");
            is("gives " + n, x.ask(0, 1, 0, 0), n);
            is("has none any more", x.hand(1, 0), 0);
            is("all came", x.hand(0, 0), n == 3 ? 0 : n + 1);
            is("a book by the fourth", x.book(0), n == 3 ? 0 : N);
            is("laid down", x.asked(5), n == 3 ? 0 : N);
            is("the turn stays", x.now(0), 0);
            is("nothing is drawn", x.now(1), 1);
            is("given to it", x.person(0, 6), n);
        }
    }

    private static void saysNo() {
        SevenTable x = tell("kinds 3;person a;person b;hand a 0 1;hand b 1 1;heap 2;");
        is("no", x.ask(0, 1, 0, 0), 0);
        is("draws the first", x.asked(4), 2);
        is("the next one's", x.now(0), 1);
        is("no", x.ask(1, 0, 1, 0), 0);
        is("the heap is empty", x.asked(4), N);
        is("the next one's, round", x.now(0), 0);
        SevenTable liar = tell("kinds 3;person a;person b;hand a 0 1;hand b 0 3;heap 2;");
        is("lies", liar.ask(0, 1, 0, 1), 0);
        is("a lie", liar.asked(6), 1);
        is("has them still", liar.hand(1, 0), 3);
        is("draws", liar.asked(4), 2);
        SevenTable honest = tell("kinds 3;person a;person b;hand a 0 1;hand b 1 1;heap 2;");
        is("has none to lie about", honest.ask(0, 1, 0, 1), 0);
        is("no lie", honest.asked(6), 0);
    }

    private static void shows() {
        String text = "kinds 3;person a;person b;hand a 0 1;hand a 1 1;hand b 1 1;heap 0 1 2;";
        SevenTable with = tell(text + "again;");
        with.ask(0, 1, 0, 0);
        is("of that kind: the turn stays", with.now(0), 0);
        is("shown is known", with.known(0, 0), 2);
        with.ask(0, 1, 0, 0);
        is("of another kind: the next one's", with.now(0), 1);
        is("not known", with.known(0, 1), 0);
        SevenTable without = tell(text);
        without.ask(0, 1, 0, 0);
        is("without again: the next one's", without.now(0), 1);
        is("not known", without.known(0, 0), 1);
        is("another one", without.person(0, 3), 2);
        SevenTable had = tell("kinds 3;person a;person b;hand a 0 1;hand a 1 1;hand b 1 1;heap 1 0;again;");
        had.ask(0, 1, 0, 0);
        is("a kind that it has, but did not ask for", had.now(0), 1);
        SevenTable lied = tell("kinds 3;person a;person b;hand a 0 1;hand b 0 1;hand b 1 1;heap 0;again;");
        lied.ask(0, 1, 0, 1);
        is("behind a lie, too", lied.now(0), 0);
    }

    private static void aheadOfRefill() {
        SevenTable x = tell("kinds 3;person a;person b;hand a 0 3;hand b 0 1;hand b 1 1;heap 1 1 1 2;refill 3;");
        x.ask(0, 1, 0, 0);
        is("laid down, then three drawn", x.person(0, 0), 3);
        is("book by what came", x.asked(5), 0);
        SevenTable y = tell("kinds 3;person a;person b;hand a 0 3;hand b 0 1;hand b 2 1;heap 1 1 1 1 2;refill 4;");
        y.ask(0, 1, 0, 0);
        is("a book by the refill, too", y.person(0, 1), 2);
        is("but told is what came", y.asked(5), 0);
        is("drawn by the refill again", y.person(0, 0), 1);
        SevenTable z = tell("kinds 3;person a;person b;person d;hand a 0 1;hand b 0 1;hand d 2 1;heap 1 1 1 1 2;refill 4;");
        z.ask(0, 1, 0, 0);
        is("b gave all, a draws", z.ask(0, 2, 0, 0), 0);
        is("b's refill is behind the asking", z.person(1, 0), 4);
        is("no book by what came", z.asked(5), N);
        is("the card drawn by the asking", z.asked(4), 1);
        SevenTable w = tell("kinds 3;person a;person b;person d;hand a 0 2;hand b 0 1;hand d 2 1;heap 2 1 1 1 1 2;refill 4;");
        w.ask(0, 1, 0, 0);
        w.ask(0, 2, 0, 0);
        is("b lays four down by its refill", w.book(1), 1);
        is("and draws the rest", w.person(1, 0), 1);
        is("no book by what came", w.asked(5), N);
    }

    private static void inVain() {
        for (int n = 2; n <= 6; n++) {
            SevenTable x = tell("kinds 2;" + people(n) + "hand a 0 1;hand b 1 1;");
            for (int i = 0; i < n; i++) {
                is("not over with " + n + " behind " + i, x.now(0), i % 2);
                is("in vain", x.now(4), i);
                is("in vain", x.ask(i % 2, 1 - i % 2, i % 2, 0), 0);
            }
            is("over with " + n, x.now(0), N);
            is("so many", x.now(4), n);
            is("why", x.why(0, 1, 0), 1);
            is("cards are there still", x.now(5), 2);
        }
    }

    private static void vainEnds() {
        SevenTable x = tell("kinds 3;" + people(3) + "hand a 0 1;hand b 1 1;hand d 1 1;");
        x.ask(0, 1, 0, 0);
        is("one", x.now(4), 1);
        is("given", x.ask(1, 2, 1, 0), 1);
        is("none by a gift", x.now(4), 0);
        x.ask(1, 2, 1, 0);
        is("one", x.now(4), 1);
        x.ask(0, 2, 0, 0);
        is("two", x.now(4), 2);
        is("not over", x.now(0), 1);
        SevenTable y = tell("kinds 3;person a;person b;hand a 0 1;hand b 1 1;heap 2 2;");
        y.ask(0, 1, 0, 0);
        y.ask(1, 0, 1, 0);
        is("none: both drew", y.now(4), 0);
        y.ask(0, 1, 0, 0);
        is("one", y.now(4), 1);
        is("a lie is in vain, too", y.ask(1, 0, 2, 1), 0);
        is("two: over", y.now(0), N);
        SevenTable given = tell("kinds 3;person a;person b;hand a 0 1;hand b 1 1;hand b 0 2;");
        given.ask(0, 1, 0, 0);
        is("a gift from an empty heap is not in vain", given.now(4), 0);
    }

    private static void oneIsKnown() {
        SevenTable x = tell("kinds 3;person a;person b;hand a 0 3;hand a 1 1;hand b 2 1;heap 1 1 2;");
        x.ask(0, 1, 0, 0);
        is("one alone, though it has three", x.known(0, 0), 1);
        is("others", x.person(0, 3), 4);
        x.ask(1, 0, 2, 0);
        x.ask(0, 1, 0, 0);
        is("three askings", x.now(2), 3);
        is("it is known already", x.known(0, 0), 1);
        is("b's one", x.known(1, 2), 1);
    }

    private static void firstThatCanBe() {
        SevenTable x = tell("kinds 3;person a;person b;hand a 0 1;hand b 1 1;hand b 2 1;heap 1 0 2 2;");
        x.ask(0, 1, 0, 0);
        is("b's two can't be 0", x.can(1, 0), 0);
        x.ask(1, 0, 2, 0);
        is("b drew: it can be 0", x.can(1, 0), 1);
        x.ask(0, 1, 1, 0);
        is("a's drawn 1 is known, and b's came", x.known(0, 1), 2);
        is("b gave the first that can be it", x.person(1, 3), 1);
        is("the one drawn stays", x.can(1, 0), 1);
        x.ask(0, 1, 0, 0);
        is("b's drawn 0 was the first that can be", x.asked(3), 1);
        is("b is not caught", x.person(1, 4), 0);
    }

    private static void caughtByAsking() {
        SevenTable x = tell("kinds 2;person a;person b;hand a 0 1;hand b 0 1;hand b 1 1;");
        x.ask(0, 1, 0, 1);
        is("not caught yet", x.person(1, 4), 0);
        is("none can be", x.can(1, 0), 0);
        x.ask(1, 0, 0, 0);
        is("caught", x.person(1, 4), 1);
        is("the first of all is it, and one was given", x.known(1, 0), 2);
        is("the other one", x.person(1, 3), 1);
        is("can't be 0 still", x.can(1, 0), 0);
        SevenTable twice = tell("kinds 3;person a;person b;hand a 0 1;hand a 1 1;hand b 0 1;hand b 1 1;heap 2 2 2;");
        twice.ask(0, 1, 0, 1);
        twice.ask(1, 0, 0, 1);
        is("b is caught", twice.person(1, 4), 1);
        is("a is caught: one was known", twice.person(0, 4), 1);
        twice.ask(0, 1, 1, 1);
        twice.ask(1, 0, 1, 1);
        is("b once more", twice.person(1, 4), 2);
        is("a once more", twice.person(0, 4), 2);
    }

    private static void caughtByGiving() {
        SevenTable x = tell("kinds 2;person a;person b;hand a 0 1;hand b 0 3;hand b 1 1;");
        x.ask(0, 1, 0, 1);
        x.ask(1, 0, 1, 0);
        is("b's 1 is the first", x.known(1, 1), 1);
        is("a's turn", x.now(0), N);
        SevenTable y = tell("kinds 3;person a;person b;hand a 0 1;hand b 0 3;hand b 1 1;heap 2 2 1;");
        y.ask(0, 1, 0, 1);
        y.ask(1, 0, 1, 0);
        is("a's turn", y.now(0), 0);
        is("b has one that can be 0: the one drawn", y.can(1, 0), 1);
        is("gives three", y.ask(0, 1, 0, 0), 3);
        is("the one drawn first, then two that can't be: caught twice", y.person(1, 4), 2);
        is("one other", y.person(1, 3), 1);
        is("and it can't be 0", y.can(1, 0), 0);
    }

    private static void caughtByABook() {
        SevenTable x = tell("kinds 2;person a;person b;hand a 0 1;hand a 1 1;hand b 0 2;hand b 1 1;heap 0 1;");
        x.ask(0, 1, 1, 1);
        is("a drew 0", x.asked(4), 0);
        is("b says that it has no 1", x.can(1, 1), 0);
        x.ask(1, 0, 0, 0);
        is("b has four 0: a book", x.book(0), 1);
        is("made known, then gone", x.known(1, 0), 0);
        is("one other is left", x.person(1, 3), 1);
        is("can be", x.can(1, 0) * 10 + x.can(1, 1), 10);
        is("not caught", x.person(1, 4), 0);
        SevenTable y = tell("kinds 2;person a;person b;hand a 0 1;hand b 0 2;hand b 1 1;heap 1 0;");
        y.ask(0, 1, 0, 1);
        is("a drew 1", y.asked(4), 1);
        is("gives one", y.ask(1, 0, 0, 0), 1);
        is("b is caught by asking", y.person(1, 4), 1);
        is("b draws the fourth", y.ask(1, 0, 0, 0), 0);
        is("a book", y.book(0), 1);
        is("known were two; the drawn one can be it; of the rest none: caught", y.person(1, 4), 2);
        is("one other is left", y.person(1, 3), 1);
    }

    private static void gives() {
        SevenTable x = tell("kinds 3;" + people(3) + "hand a 0 1;hand b 0 2;hand b 1 1;hand d 2 1;heap 1 1 2;");
        x.ask(0, 2, 0, 0);
        x.ask(1, 2, 1, 0);
        is("b drew", x.asked(4), 1);
        x.ask(2, 0, 2, 0);
        x.ask(0, 1, 0, 0);
        is("gives two", x.asked(3), 2);
        is("known of whom they came to", x.known(0, 0), 3);
        is("b's others: one had, one drawn, one known", x.person(1, 3), 1);
        is("the others can't be it", x.can(1, 0), 0);
        is("b's 1 is known still", x.known(1, 1), 1);
        SevenTable y = tell("kinds 3;person a;person b;hand a 0 1;hand b 0 2;hand b 1 1;heap 1 1 2;");
        y.ask(0, 1, 0, 1);
        y.ask(1, 0, 0, 1);
        is("a's 0 was known: caught", y.person(0, 4), 1);
        is("b's 0 is known", y.known(1, 0), 1);
        y.ask(0, 1, 0, 0);
        is("gives the known one and one more", y.asked(3), 2);
        is("b has two others", y.person(1, 3), 2);
        is("none is known", y.known(1, 0), 0);
    }

    private static void saysNoKnown() {
        SevenTable x = tell("kinds 3;person a;person b;hand a 0 2;hand b 0 1;hand b 1 1;heap 2 2 1;");
        x.ask(0, 1, 0, 1);
        is("none was known: not caught", x.person(1, 4), 0);
        x.ask(1, 0, 0, 1);
        is("one was known: caught", x.person(0, 4), 1);
        is("no more known", x.known(0, 0), 0);
        is("three others", x.person(0, 3), 3);
        is("all of them can't be it", x.can(0, 0), 0);
        is("but can be another", x.can(0, 1) * 10 + x.can(0, 2), 33);
        SevenTable y = tell("kinds 3;person a;person b;hand a 0 1;hand b 0 1;hand b 1 2;heap 2 2 2;");
        y.ask(0, 1, 0, 0);
        y.ask(0, 1, 0, 0);
        y.ask(1, 0, 1, 0);
        is("a has two 0, known", y.known(0, 0), 2);
        y.ask(0, 1, 2, 0);
        is("gives what it drew", y.asked(3), 1);
    }

    private static void behindAll() {
        SevenTable x = tell("kinds 3;person a;person b;hand a 0 1;hand a 2 1;hand b 0 1;hand b 1 1;heap 1 2 1 2;");
        x.ask(0, 1, 0, 1);
        x.ask(1, 0, 1, 0);
        is("a gave its drawn 1 as the first that can be", x.asked(3), 1);
        is("a has a known 0", x.known(0, 0), 1);
        x.ask(1, 0, 0, 1);
        is("caught", x.person(0, 4), 1);
        is("a's others: one can't be 1, one can", x.can(0, 1), 1);
        is("none can be 0", x.can(0, 0), 0);
        x.ask(0, 1, 2, 0);
        is("the first of the others was 2: behind it is the one that can be 1", x.can(0, 1), 1);
    }

    private static void asTheyCame() {
        SevenTable x = tell("kinds 4;" + people(3) + "hand a 0 1;hand a 2 1;hand b 1 1;hand d 3 1;heap 2 1 3 0 1 3;");
        x.ask(0, 2, 0, 0);
        x.ask(1, 0, 1, 0);
        x.ask(2, 1, 3, 0);
        x.ask(0, 2, 0, 0);
        x.ask(1, 2, 1, 0);
        x.ask(2, 1, 3, 0);
        is("of three others the last one drawn can be 1", x.can(0, 1), 1);
        x.ask(0, 1, 2, 0);
        is("seven askings", x.now(2), 7);
        is("the first of them was 2", x.person(0, 3), 2);
        is("the last one is there still", x.can(0, 1), 1);
    }

    private static void drawn() {
        SevenTable x = tell("kinds 3;person a;person b;hand a 0 1;hand b 1 1;heap 2 0 0;");
        x.ask(0, 1, 0, 0);
        is("one more", x.person(0, 3), 1);
        is("that can be any", x.can(0, 0) * 100 + x.can(0, 1) * 10 + x.can(0, 2), 111);
        x.ask(1, 0, 1, 0);
        is("not 1 any more", x.can(0, 1), 0);
        is("b's is new", x.can(1, 0) * 100 + x.can(1, 1) * 10 + x.can(1, 2), 111);
    }

    private static void bookIsGone() {
        SevenTable x = tell("kinds 2;person a;person b;hand a 0 2;hand a 1 1;hand b 0 2;hand b 1 1;");
        x.ask(0, 1, 0, 0);
        is("a book", x.book(0), 0);
        is("none known", x.known(0, 0), 0);
        is("one other", x.person(0, 3), 1);
        is("it can be any", x.can(0, 0) * 10 + x.can(0, 1), 11);
        is("b's other can't", x.can(1, 0) * 10 + x.can(1, 1), 1);
        is("nobody was caught", x.person(0, 4) + x.person(1, 4), 0);
    }

    private static void dealtBySeeds() {
        int[] seeds = {0, 1, -1, 7, 12345, Integer.MAX_VALUE, Integer.MIN_VALUE, 1 << 30, -1103515245};
        for (int kinds = 2; kinds <= 13; kinds++) {
            for (int i = 0; i < seeds.length; i++) {
                int persons = 1 + (kinds + i) % 6;
                int n = Math.min(9, 4 * kinds / persons);
                SevenTable x = tell("kinds " + kinds + ";" + people(persons));
                is("dealt", x.deal(n, seeds[i]), true);
                int[] pack = shuffled(kinds, seeds[i]);
                for (int p = 0; p < persons; p++) {
                    handIs(x, p, kinds, pack, p * n, n);
                }
                if (x.now(3) == 0) {
                    isFresh("dealt", x);
                }
                is("the rest is the heap", x.now(1), pack.length - persons * n);
                for (int j = 0; j < x.now(1); j++) {
                    is("heap " + j, x.heap(j), pack[persons * n + j]);
                }
            }
        }
    }

    /** The pack told with longs, so that the wrap is written out. */
    static int[] shuffled(int kinds, int seed) {
        int[] pack = new int[4 * kinds];
        for (int i = 0; i < pack.length; i++) {
            pack[i] = i / 4;
        }
        long x = seed & 0xffffffffL;
        for (int i = pack.length - 1; i >= 1; i--) {
            x = (x * 1103515245L + 12345L) & 0xffffffffL;
            int j = (int) ((x / 256) % (i + 1));
            int card = pack[i];
            pack[i] = pack[j];
            pack[j] = card;
        }
        return pack;
    }

    private static void handIs(SevenTable x, int p, int kinds, int[] pack, int from, int n) {
        for (int kind = 0; kind < kinds; kind++) {
            int due = 0;
            for (int i = from; i < from + n; i++) {
                due += pack[i] == kind ? 1 : 0;
            }
            is("hand of " + p + ", kind " + kind, x.hand(p, kind), due == 4 ? 0 : due);
            is("book", x.book(kind) == p, due == 4);
        }
    }

    public static void main(String[] args) {
        sentence("At first all who have four of a KIND lay them down", EdgesOfPlayTest::fourAtFirst);
        sentence("The TURN is the first one's", EdgesOfPlayTest::firstTurn);
        sentence("One who has none when it is to be its TURN", EdgesOfPlayTest::refillAtFirst);
        sentence("or as many as there are", EdgesOfPlayTest::asManyAsThereAre);
        sentence("again, if it lays them all down", EdgesOfPlayTest::refillAgain);
        sentence("or while it is, draws 'refill' cards", EdgesOfPlayTest::refillWhileTurn);
        sentence("still without, it goes to the next PERSON (round), and so on", EdgesOfPlayTest::stillWithout);
        sentence("if nobody has a card, it is OVER", EdgesOfPlayTest::nobodyHasACard);
        sentence("why not, the least: 1 it is OVER; 2 it is not one's TURN; 3 one has none of this KIND; 4 one asks "
                + "oneself", EdgesOfPlayTest::whyTheLeast);
        sentence("Who is asked has some: gives all, the TURN stays", EdgesOfPlayTest::givesAll);
        sentence("Has none, or LIES: says no; one draws the first card of the heap, if there is one",
                EdgesOfPlayTest::saysNo);
        sentence("with 'again' and if it is of that KIND, one shows it, and the TURN stays; else the TURN is the next "
                + "one's", EdgesOfPlayTest::shows);
        sentence("Four of a KIND in a hand are laid down at once as a BOOK (ahead of any refill)",
                EdgesOfPlayTest::aheadOfRefill);
        sentence("as many in VAIN one after another as there are PERSONS: it is OVER", EdgesOfPlayTest::inVain);
        sentence("In VAIN is an asking by which nothing is given and nothing drawn", EdgesOfPlayTest::vainEnds);
        sentence("One who ASKS has one at least: one is KNOWN", EdgesOfPlayTest::oneIsKnown);
        sentence("the first of the others that can be it is that one from then on", EdgesOfPlayTest::firstThatCanBe);
        sentence("if none can be: the first of all, and the PERSON is CAUGHT, once more each time",
                EdgesOfPlayTest::caughtByAsking);
        sentence("as many more as it gives, each as if it were KNOWN ahead of that", EdgesOfPlayTest::caughtByGiving);
        sentence("Of a BOOK all are made KNOWN, then they are gone", EdgesOfPlayTest::caughtByABook);
        sentence("Who gives: all that are KNOWN go", EdgesOfPlayTest::gives);
        sentence("Who says no: CAUGHT, if some are KNOWN", EdgesOfPlayTest::saysNoKnown);
        sentence("they are others that can be any, behind all", EdgesOfPlayTest::behindAll);
        sentence("of the others, in the order in which they came, which KINDS they can't be", EdgesOfPlayTest::asTheyCame);
        sentence("A card drawn is one more of the others, that can be any", EdgesOfPlayTest::drawn);
        sentence("Those laid down as BOOKS are gone", EdgesOfPlayTest::bookIsGone);
        sentence("x becomes x * 1103515245 + 12345 (an int, wrapping), the draw is (x >>> 8) % n",
                EdgesOfPlayTest::dealtBySeeds);
        finish("edges of play");
    }
}
