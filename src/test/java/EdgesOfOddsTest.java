/** The edges of odds, bents, sweeps and open hands: what section 3 of the Terms and promises 17 to 25 say of them. */
public final class EdgesOfOddsTest extends Check {

    private static void eachCardByItself() {
        SevenTable x = tell("kinds 3;person a;person b;hand a 2 1;hand b 1 1;heap 0 0 0;");
        oddsAre(x, 0, 1, 0, 3, 4);
        oddsAre(x, 0, 1, 1, 1, 4);
        nextIs(x, 0, 0, 3, 4);
        nextIs(x, 0, 1, 1, 4);
        oddsAre(x, 1, 0, 2, 1, 4);
        nextIs(x, 1, 0, 3, 4);
    }

    private static void whatItSees() {
        SevenTable x = tell("kinds 3;" + people(3) + "hand a 0 4;hand a 1 1;hand b 1 2;hand d 1 1;heap 2;");
        oddsAre(x, 1, 0, 0, 0, 1);
        is("a book is seen", x.book(0), 0);
        oddsAre(x, 1, 0, 1, 2, 3);
        oddsAre(x, 0, 1, 1, 1, 1);
        oddsAre(x, 0, 2, 2, 1, 4);
        x.ask(0, 1, 1, 0);
        oddsAre(x, 2, 0, 1, 1, 1);
        oddsAre(x, 2, 1, 1, 0, 1);
        oddsAre(x, 1, 2, 1, 1, 2);
        oddsAre(x, 1, 2, 2, 1, 2);
    }

    private static void oneIsKnown() {
        SevenTable x = tell("kinds 3;" + people(3) + "hand a 0 1;hand a 1 2;hand b 2 1;hand d 0 1;hand d 2 1;heap 2 1;");
        x.ask(0, 1, 0, 0);
        x.ask(1, 0, 2, 0);
        is("one is known", x.known(0, 0), 1);
        oddsAre(x, 2, 0, 0, 1, 1);
        oddsAre(x, 1, 0, 0, 1, 1);
        is("whom d asks: surely a for 0", x.whom(2), 0);
    }

    private static void cantBe() {
        SevenTable x = tell("kinds 2;" + people(3) + "hand a 0 1;hand b 1 1;hand d 1 1;heap 0 1 0;");
        oddsAre(x, 0, 1, 0, 2, 5);
        x.ask(0, 1, 0, 0);
        oddsAre(x, 0, 1, 0, 0, 1);
        oddsAre(x, 0, 1, 1, 1, 1);
        // a sees two 0; left are a 0 and three 1, one of which is b's.
        oddsAre(x, 0, 2, 0, 1, 3);
        nextIs(x, 0, 1, 2, 3);
        for (int kind = 0; kind < 13; kind++) {
            int other = (kind + 5) % 13;
            SevenTable y = tell("kinds 13;" + people(3) + "hand a " + kind + " 1;hand b " + other + " 1;hand d " + other
                    + " 1;hand d " + kind + " 1;heap " + other + " " + kind + ";");
            // a does not see two of each; b has one of them, d two.
            oddsAre(y, 0, 1, kind, 2, 5);
            y.ask(0, 1, kind, 0);
            oddsAre(y, 0, 1, kind, 0, 1);
            oddsAre(y, 0, 1, other, 1, 1);
            oddsAre(y, 2, 1, kind, 0, 1);
        }
    }

    private static void leastTerms() {
        SevenTable x = tell("kinds 3;person a;person b;hand a 2 1;hand b 0 1;heap 0 1 1;");
        oddsAre(x, 0, 1, 0, 1, 2);
        oddsAre(x, 0, 1, 2, 0, 1);
        nextIs(x, 0, 2, 0, 1);
        nextIs(x, 0, 1, 1, 2);
        SevenTable all = tell("kinds 3;person a;person b;hand a 2 1;hand b 0 3;heap 0;");
        oddsAre(all, 0, 1, 0, 1, 1);
        nextIs(all, 0, 0, 1, 1);
    }

    private static void twelveOthers() {
        String six = "kinds 13;person a;person b;hand a 6 1;hand b 0 2;hand b 1 2;hand b 2 2;hand b 3 2;hand b 4 2;";
        String heap = "heap 0 1 2 3 4 5 0 1 2 3 4 5;";
        SevenTable x = tell(six + "hand b 5 2;" + heap);
        // Of 24 cards four are of a kind: 1 less (20 over 12) / (24 over 12).
        for (int kind = 0; kind < 6; kind++) {
            oddsAre(x, 0, 1, kind, 307, 322);
            nextIs(x, 0, kind, 1, 6);
        }
        is("whom: like b's, but of a kind that a has", x.whom(0), 106);
        SevenTable y = tell(six + "hand b 5 3;heap 0 1 2 3 4 0 1 2 3 4 5;");
        is("thirteen others", oddsThrow(y, 0, 1, 0, 0), true);
        is("thirteen others", oddsThrow(y, 0, 1, 0, 1), true);
        is("thirteen others", nextThrows(y, 0, 0, 0), true);
        is("thirteen others", y.whom(0), N);
        SevenTable three = tell("kinds 13;" + people(3) + "hand a 6 1;hand b 0 3;hand b 1 3;hand d 2 3;hand d 3 3;");
        oddsAre(three, 0, 1, 6, 0, 1);
        is("six and six", three.whom(0), 106);
        SevenTable more = tell("kinds 13;" + people(3) + "hand a 6 1;hand b 0 3;hand b 1 3;hand d 2 3;hand d 3 3;hand d 6 1;");
        is("six and seven", oddsThrow(more, 0, 1, 0, 0), true);
        is("for b they are eight", oddsThrow(more, 1, 0, 0, 0), false);
        is("for d they are seven", oddsThrow(more, 2, 0, 0, 0), false);
    }

    private static void knownAreNoOthers() {
        String hands = "kinds 13;person a;person b;hand b 6 1;hand a 6 1;hand a 0 3;hand a 1 3;hand a 2 3;hand a 3 3;";
        SevenTable x = tell(hands);
        is("thirteen others", oddsThrow(x, 1, 0, 0, 0), true);
        is("gives", x.ask(0, 1, 6, 0), 1);
        is("two are known, twelve are others", x.person(0, 3), 12);
        oddsAre(x, 1, 0, 0, 1, 1);
        is("but b has no card", x.whom(1), N);
    }

    private static void sixKinds() {
        SevenTable six = tell("kinds 13;person a;person b;hand a 0 1;hand b 1 1;heap 2 3 4 5 6;");
        oddsAre(six, 0, 1, 1, 1, 6);
        nextIs(six, 0, 6, 1, 6);
        is("whom", six.whom(0), 100);
        SevenTable seven = tell("kinds 13;person a;person b;hand a 0 1;hand b 1 1;heap 2 3 4 5 6 7;");
        is("seven kinds", oddsThrow(seven, 0, 1, 1, 0), true);
        is("seven kinds", nextThrows(seven, 0, 1, 0), true);
        is("seven kinds", seven.whom(0), N);
        SevenTable own = tell("kinds 13;person a;person b;hand a 0 1;hand a 7 3;hand a 8 2;hand b 1 1;hand b 9 4;heap 2 3 4 5 6;");
        is("its own and books are seen", oddsThrow(own, 0, 1, 1, 0), false);
        SevenTable part = tell("kinds 13;person a;person b;hand a 0 3;hand b 1 1;heap 2 3 4 5 6 0;");
        is("one of four is not seen", oddsThrow(part, 0, 1, 1, 0), true);
        SevenTable known = tell("kinds 13;person a;person b;hand a 7 1;hand a 0 1;hand b 7 1;hand b 8 1;heap 2 3 4 5 6;");
        is("seven kinds", oddsThrow(known, 1, 0, 0, 0), true);
        known.ask(0, 1, 7, 0);
        is("all of one are known", oddsThrow(known, 1, 0, 0, 0), false);
        oddsAre(known, 1, 0, 0, 1, 6);
        oddsAre(known, 1, 0, 7, 1, 1);
        nextIs(known, 1, 7, 0, 1);
    }

    private static void noWay() {
        SevenTable x = tell("kinds 2;person a;person b;hand a 0 2;hand a 1 1;hand b 0 2;heap 1;");
        x.ask(0, 1, 0, 1);
        is("one of b's can be 1, the other nothing", oddsThrow(x, 0, 1, 0, 0), true);
        is("nor 1", oddsThrow(x, 0, 1, 1, 1), true);
        is("whom", x.whom(0), N);
        is("b sees its own", oddsThrow(x, 1, 0, 0, 0), false);
        SevenTable one = tell("kinds 2;person a;person b;hand a 0 2;hand b 0 2;heap 1 1;");
        one.ask(0, 1, 0, 1);
        is("b's two can't be 0, and one 1 is left", oddsThrow(one, 0, 1, 1, 0), true);
        is("nor is there a next", nextThrows(one, 0, 0, 0), true);
        SevenTable sees = tell("kinds 2;" + people(3) + "hand a 0 2;hand b 0 2;hand d 1 1;");
        sees.ask(0, 1, 0, 1);
        is("a's 0 is known, but there is no way", oddsThrow(sees, 2, 0, 0, 0), true);
    }

    private static void noWayJust() {
        SevenTable x = tell("kinds 2;person a;person b;hand a 0 1;hand b 0 2;heap 0 1 1;");
        x.ask(0, 1, 0, 1);
        // b's two must be the two 1 that a does not see, so the heap is 0 and 0.
        oddsAre(x, 0, 1, 1, 1, 1);
        oddsAre(x, 0, 1, 0, 0, 1);
        nextIs(x, 0, 0, 1, 1);
        nextIs(x, 0, 1, 0, 1);
    }

    private static void itselfAndNoSuch() {
        SevenTable x = tell(THREE);
        String before = picture(x);
        is("o itself", oddsThrow(x, 0, 0, 0, 0), true);
        is("o itself", oddsThrow(x, 2, 2, 1, 1), true);
        is("o", oddsThrow(x, -1, 1, 0, 0), true);
        is("o", oddsThrow(x, 3, 1, 0, 0), true);
        is("q", oddsThrow(x, 0, -1, 0, 0), true);
        is("q", oddsThrow(x, 0, 3, 0, 0), true);
        is("kind", oddsThrow(x, 0, 1, -1, 0), true);
        is("kind", oddsThrow(x, 0, 1, 3, 0), true);
        is("what", oddsThrow(x, 0, 1, 0, -1), true);
        is("what", oddsThrow(x, 0, 1, 0, 2), true);
        is("the last ones", oddsThrow(x, 2, 1, 2, 1), false);
        for (int wild : WILD) {
            is("o " + wild, oddsThrow(x, wild, 1, 0, 0), true);
            is("q " + wild, oddsThrow(x, 0, wild, 0, 0), true);
            is("kind " + wild, oddsThrow(x, 0, 1, wild, 0), true);
            is("what " + wild, oddsThrow(x, 0, 1, 0, wild), true);
        }
        same("nothing changes", picture(x), before);
    }

    private static void throwsChangeNothing() {
        String[] dark = {"kinds 13;person a;person b;hand a 0 1;hand b 1 1;heap 2 3 4 5 6 7 8;",
            "kinds 13;person a;person b;hand a 6 1;hand b 0 3;hand b 1 3;hand b 2 3;hand b 3 3;hand b 6 1;heap 4;",
            "kinds 2;person a;person b;hand a 0 2;hand b 0 2;heap 1;"};
        for (String text : dark) {
            SevenTable x = tell(text);
            sentenceOf(x, "held a");
            x.ask(0, 1, x.person(0, 2) == 64 ? 6 : 0, 1);
            String before = picture(x);
            write(x, "xyz");
            is("odds", oddsThrow(x, 0, 1, 0, 0), true);
            is("next", x.now(1) == 0 || nextThrows(x, 0, 0, 1), true);
            is("hand", handThrows(x, 2, 0), true);
            is("whom", x.whom(0), N);
            same("nothing changes", picture(x), before);
            is("the tape stays", x.count(4), 3);
            is("fault() stays", x.fault(), 0);
            is("what can be undone stays", x.undo(), 0);
        }
        SevenTable x = tell(THREE);
        oddsAre(x, 0, 1, 0, 7, 12);
        is("refused", oddsThrow(x, 0, 0, 0, 0), true);
        nextIs(x, 0, 2, 4, 9);
        is("refused", nextThrows(x, 0, 3, 0), true);
        oddsAre(x, 0, 1, 0, 7, 12);
        is("whom", x.whom(0), 101);
        oddsAre(x, 0, 1, 2, 37, 42);
    }

    private static void nextEdges() {
        SevenTable x = tell(THREE);
        String before = picture(x);
        is("o", nextThrows(x, -1, 0, 0), true);
        is("o", nextThrows(x, 3, 0, 0), true);
        is("kind", nextThrows(x, 0, -1, 0), true);
        is("kind", nextThrows(x, 0, 3, 0), true);
        is("what", nextThrows(x, 0, 0, -1), true);
        is("what", nextThrows(x, 0, 0, 2), true);
        is("the last ones", nextThrows(x, 2, 2, 1), false);
        for (int wild : WILD) {
            is("o " + wild, nextThrows(x, wild, 0, 0), true);
            is("kind " + wild, nextThrows(x, 0, wild, 0), true);
            is("what " + wild, nextThrows(x, 0, 0, wild), true);
        }
        same("nothing changes", picture(x), before);
        SevenTable one = tell("kinds 2;person a;person b;hand a 0 1;hand b 1 1;heap 1;");
        nextIs(one, 0, 1, 1, 1);
        one.ask(0, 1, 0, 0);
        is("the heap is empty", nextThrows(one, 0, 1, 0), true);
        is("for b, too", nextThrows(one, 1, 0, 1), true);
        oddsAre(one, 0, 1, 1, 1, 1);
        SevenTable alone = tell("kinds 13;person a;hand a 12 1;heap 0 1 2 3 4 5;");
        nextIs(alone, 0, 0, 1, 6);
    }

    private static void whomEdges() {
        SevenTable like = tell("kinds 3;" + people(3) + "hand a 0 1;hand a 1 1;hand b 0 1;hand d 1 1;");
        is("of like ones the first person, then the first kind", like.whom(0), 100);
        is("for d: 1 of a or b alike", like.whom(2), 1);
        SevenTable more = tell("kinds 3;" + people(3) + "hand a 0 1;hand a 1 1;hand b 0 1;hand d 1 3;hand d 0 1;");
        is("who has more cards", more.whom(0), 200);
        SevenTable kinds = tell("kinds 3;person a;person b;hand a 0 1;hand a 1 1;hand b 0 1;hand b 1 1;heap 0 1 1;");
        is("the kind of which there are more", kinds.whom(0), 101);
        SevenTable hasIt = tell("kinds 3;person a;person b;hand a 0 1;hand b 0 1;hand b 1 3;");
        is("only a kind that it has", hasIt.whom(0), 100);
        is("odds of nothing", tell("kinds 2;person a;person b;hand a 1 1;").whom(0), 101);
        is("no card in hand", tell("kinds 2;person a;person b;hand b 1 1;").whom(0), N);
        is("one alone", tell("kinds 2;person a;hand a 0 1;heap 1 1;").whom(0), N);
        is("nobody", new SevenTable().whom(0), N);
        SevenTable x = tell(THREE);
        is("no such", x.whom(3), N);
        is("no such", x.whom(-1), N);
        for (int wild : WILD) {
            is("no such", x.whom(wild), N);
        }
        is("not on turn", x.whom(2) >= 0, true);
    }

    private static void sweepEdges() {
        SevenTable x = tell("kinds 13;" + people(6) + "hand a 0 1;hand a 12 1;hand b 12 1;hand g 12 1;hand d 5 1;hand g 0 3;");
        is("a", x.sweep(0), 3);
        is("kind 0 first", x.swept(0), 500);
        is("kind 12: b", x.swept(1), 112);
        is("kind 12: g", x.swept(2), 512);
        is("behind", x.swept(3), N);
        is("d alone has 5", x.sweep(2), 0);
        is("none", x.swept(0), N);
        is("e has no card", x.sweep(3), 0);
        is("g asks a and b", x.sweep(5), 3);
        is("g asks a for 0", x.swept(0), 0);
        is("g asks a for 12", x.swept(1), 12);
        is("g asks b for 12", x.swept(2), 112);
        is("no such", x.sweep(6), N);
        is("no such", x.sweep(-1), N);
        is("they stay", x.swept(2), 112);
        for (int wild : WILD) {
            is("no such", x.sweep(wild), N);
            is("no such", x.swept(wild), N);
        }
        SevenTable heaped = tell("kinds 2;person a;person b;hand a 0 1;hand a 1 4;heap 0 0;");
        is("the heap is not asked", heaped.sweep(0), 0);
        StringBuilder all = new StringBuilder("kinds 13;" + people(4));
        for (int kind = 0; kind < 13; kind++) {
            all.append("hand a ").append(kind).append(" 1;hand b ").append(kind).append(" 1;hand d ").append(kind)
                    .append(" 1;hand e ").append(kind).append(" 1;");
        }
        SevenTable full = tell(all.toString());
        is("all of all", full.sweep(1), 39);
        is("the last", full.swept(38), 312);
        is("behind", full.swept(39), N);
        is("gains all", full.gains(1), 13);
    }

    private static void gainsEdges() {
        SevenTable x = tell("kinds 4;" + people(3) + "hand a 0 1;hand b 0 3;hand a 1 1;hand d 1 2;heap 1;hand b 2 4;hand d 3 3;");
        is("four in hands; one is in the heap", x.gains(0), 1);
        is("with what it has", x.gains(1), 2);
        is("three are no book", x.gains(2), 0);
        is("no such", x.gains(3), N);
        is("no such", x.gains(-1), N);
        is("nobody", new SevenTable().gains(0), N);
        is("no card", tell("kinds 2;person a;person b;hand b 0 4;").gains(0), 0);
        is("books stay", tell("kinds 2;person a;person b;hand b 0 4;").gains(1), 1);
    }

    private static void bentZero() {
        SevenTable x = tell("kinds 13;" + people(4) + "hand a 12 1;hand a 3 1;hand d 0 1;hand e 5 1;");
        is("the least kind, the next with a card", x.bent(0, 0), 203);
        is("round", x.bent(3, 0), 5);
        is("no card", x.bent(1, 0), N);
        SevenTable alone = tell("kinds 13;" + people(4) + "hand a 12 1;");
        is("nobody has one: the next one", alone.bent(0, 0), 112);
        SevenTable far = tell("kinds 13;" + people(4) + "hand a 12 1;hand e 1 1;");
        is("the last one round", far.bent(0, 0), 312);
        SevenTable behind = tell("kinds 13;" + people(4) + "hand b 12 1;hand a 1 1;");
        is("the last one round", behind.bent(1, 0), 12);
        SevenTable last = tell("kinds 13;" + people(4) + "hand e 12 1;");
        is("nobody has one: the next one, round", last.bent(3, 0), 12);
    }

    private static void bentOne() {
        SevenTable x = tell("kinds 3;" + people(3) + "hand a 0 1;hand a 1 1;hand b 0 1;hand b 1 1;hand d 0 1;hand d 1 1;heap 2 2;");
        is("nothing known: as 0", x.bent(1, 1), 200);
        x.ask(0, 1, 1, 0);
        is("its own does not count", x.bent(0, 1), 100);
        is("a's 1", x.bent(2, 1), 1);
        is("b has no 1 any more: as 0", x.bent(1, 1), 200);
        x.ask(0, 1, 0, 0);
        is("of one person the first kind", x.bent(2, 1), 0);
        SevenTable y = tell("kinds 3;" + people(3) + "hand a 1 1;hand b 0 2;hand d 0 1;hand d 1 1;heap 2 2;");
        y.ask(0, 1, 1, 0);
        y.ask(1, 0, 0, 0);
        is("b's 0 and a's 1: by persons first", y.bent(2, 1), 1);
    }

    private static void bentTwo() {
        SevenTable x = tell("kinds 4;" + people(4) + "hand a 1 2;hand a 3 2;hand a 0 1;hand b 0 1;hand d 2 2;hand e 2 2;");
        is("like kinds: the least; like persons: the first", x.bent(0, 2), 201);
        is("most cards of all but itself", x.bent(1, 2), 0);
        is("d asks a", x.bent(2, 2), 2);
        SevenTable y = tell("kinds 4;" + people(3) + "hand a 1 1;hand a 3 3;");
        is("the most; nobody has cards: the first", y.bent(0, 2), 103);
        SevenTable z = tell("kinds 4;" + people(3) + "hand d 1 1;");
        is("nobody has cards: the first", z.bent(2, 2), 1);
    }

    private static void bentThree() {
        SevenTable x = tell("kinds 3;person a;person b;hand a 0 1;hand b 1 1;heap 2 2 2;");
        is("drew nothing: as 0", x.bent(0, 3), 100);
        x.ask(0, 1, 0, 0);
        is("drew 2", x.bent(0, 3), 102);
        x.ask(1, 0, 1, 0);
        is("b drew 2", x.bent(1, 3), 2);
        x.ask(0, 1, 2, 0);
        is("b has it no more: as 0", x.bent(1, 3), 1);
        is("a drew it still", x.bent(0, 3), 102);
        SevenTable y = tell("kinds 3;person a;person b;hand b 1 1;heap 2 0;refill 2;");
        is("drawn by a refill: the last of them", y.bent(0, 3), 100);
        SevenTable laid = tell("kinds 3;person a;person b;hand a 0 3;hand a 2 1;hand b 1 1;heap 0;");
        laid.ask(0, 1, 0, 0);
        is("laid down: as 0", laid.bent(0, 3), 102);
        is("drew it last", laid.person(0, 7), 0);
    }

    private static void bentNone() {
        SevenTable x = tell(THREE);
        is("no such", x.bent(3, 0), N);
        is("no such", x.bent(-1, 0), N);
        is("no such bent", x.bent(0, 4), N);
        is("no such bent", x.bent(0, -1), N);
        is("the last ones", x.bent(2, 3) >= 0, true);
        for (int wild : WILD) {
            is("no such", x.bent(wild, 0), N);
            is("no such bent", x.bent(0, wild), N);
        }
        for (int rule = 0; rule < 4; rule++) {
            is("one alone", tell("kinds 2;person a;hand a 0 1;").bent(0, rule), N);
            is("no card", tell("kinds 2;person a;person b;hand b 0 1;").bent(0, rule), N);
            is("not on turn, though", tell("kinds 2;person a;person b;hand a 1 1;hand b 0 1;").bent(1, rule), 0);
        }
        SevenTable over = tell("kinds 2;person a;person b;hand a 0 1;hand b 1 1;");
        over.ask(0, 1, 0, 0);
        over.ask(1, 0, 1, 0);
        is("over, but if it were its turn", over.bent(0, 0), 100);
    }

    private static void openAsTold() {
        is("nobody", new SevenTable().open(), -101);
        is("one", tell("kinds 2;person a;hand a 0 1;").open(), -101);
        is("two", tell("kinds 2;person a;person b;hand a 0 1;").open(), 0);
        is("three", tell("kinds 2;" + people(3) + "hand a 0 1;").open(), -101);
        is("no kinds", tell("person a;person b;").open(), -101);
        is("two kinds", tell("kinds 2;person a;person b;hand a 0 3;hand b 0 1;").open(), 1);
        is("three kinds", tell("kinds 3;person a;person b;hand a 2 3;hand b 2 1;").open(), 1);
        is("four kinds", tell("kinds 4;person a;person b;hand a 2 3;hand b 2 1;").open(), -101);
        is("no heap", tell("kinds 3;person a;person b;hand a 0 1;").open(), 0);
        is("four in the heap", tell("kinds 3;person a;person b;hand a 0 1;heap 1 1 1 1;").open(), 1);
        is("five in the heap", tell("kinds 3;person a;person b;hand a 0 1;heap 1 1 1 1 2;").open(), -101);
        SevenTable five = tell("kinds 3;person a;person b;hand a 0 1;hand b 0 1;heap 1 1 1 1 2;");
        is("gives", five.ask(0, 1, 0, 0), 1);
        is("five still", five.open(), -101);
        five.ask(0, 1, 0, 0);
        is("four now", five.open() != -101, true);
    }

    private static void openOver() {
        is("over by books", tell("kinds 2;person a;person b;hand a 0 4;hand b 1 4;").open(), -101);
        SevenTable x = tell("kinds 2;person a;person b;hand a 0 1;hand b 1 1;");
        x.ask(0, 1, 0, 0);
        is("one in vain", x.open(), 0);
        is("first", x.first(), 1);
        x.ask(1, 0, 1, 0);
        is("over by askings in vain", x.open(), -101);
        is("over by askings in vain", x.first(), N);
        is("nobody has a card", tell("kinds 2;person a;person b;heap 0 1;").open(), -101);
        is("nobody has a card", tell("kinds 2;person a;person b;heap 0 1;").first(), N);
    }

    private static void openFewer() {
        // a draws b's fourth card, and must let b take it.
        SevenTable x = tell("kinds 2;person a;person b;hand a 0 1;hand b 1 3;heap 1;");
        is("one fewer", x.open(), -1);
        is("all that can be asked", x.first(), 0);
        SevenTable two = tell("kinds 3;person a;person b;hand a 0 1;hand b 1 3;hand b 2 4;heap 1;");
        is("with the book that lies there", two.open(), -2);
        SevenTable turn = tell("kinds 3;person a;person b;hand a 2 4;hand b 0 3;heap 0;");
        is("b on turn: one each", turn.open(), 0);
        SevenTable mine = tell("kinds 3;person a;person b;hand a 2 4;hand a 1 4;hand b 0 1;");
        is("b on turn: two fewer", mine.open(), -2);
        is("three more", tell("kinds 3;person a;person b;hand a 0 3;hand a 1 3;hand a 2 3;hand b 0 1;hand b 1 1;hand b 2 1;")
                .open(), 3);
    }

    private static void openWithRefill() {
        // a draws its fourth 0 and has none; b draws a 1; with a refill a draws two, and takes b's.
        String refilled = "kinds 2;person a;person b;hand a 0 3;hand b 1 1;heap 0 1 1 1;";
        is("one each", tell(refilled).open(), 0);
        is("two", tell(refilled + "refill 3;").open(), 2);
        is("the other one's turn", tell("kinds 3;person a;person b;hand a 2 4;hand b 1 1;hand b 0 1;").first(), 0);
    }

    /** Small tables: every way to go on is gone by ask() itself, down to the end. */
    private static void openAllWays() {
        int differ = 0;
        for (int seed = 1; seed <= 300; seed++) {
            String text = smallTable(seed);
            differ += openByAllWays(text) != openByAllWays(text + "again;") ? 1 : 0;
        }
        is("'again' tells in some", differ > 0, true);
    }

    private static int openByAllWays(String text) {
        SevenTable x = tell(text);
        if (x.now(0) != N) {
            int[] best = {0, N};
            bestWay(text, new int[40], 0, best);
            is("open of " + text, x.open(), best[0]);
            is("first of " + text, x.first(), best[1]);
        }
        return x.open();
    }

    private static String smallTable(int seed) {
        java.util.Random random = new java.util.Random(seed * 7919L * 1000003L);
        int kinds = 2 + random.nextInt(2);
        int heaped = random.nextInt(5);
        StringBuilder hands = new StringBuilder("kinds " + kinds + ";person a;person b;");
        StringBuilder heap = new StringBuilder();
        for (int kind = 0; kind < kinds; kind++) {
            int[] places = new int[3];
            int inPlay = 2 + random.nextInt(3);
            for (int i = 0; i < inPlay; i++) {
                int place = random.nextInt(3);
                places[place == 2 && heaped == 0 ? 0 : place]++;
                heaped -= place == 2 && heaped > 0 ? 1 : 0;
            }
            hands.append(places[0] > 0 ? "hand a " + kind + " " + places[0] + ";" : "");
            hands.append(places[1] > 0 ? "hand b " + kind + " " + places[1] + ";" : "");
            for (int i = 0; i < places[2]; i++) {
                heap.insert(random.nextBoolean() ? 0 : heap.length(), " " + kind);
            }
        }
        return hands + (heap.length() > 0 ? "heap" + heap + ";" : "") + "refill " + seed % 4 + ";";
    }

    /** What is best for who is on turn behind some askings, and the kind to ask for; best[0] is for that one. */
    private static void bestWay(String text, int[] kinds, int n, int[] best) {
        SevenTable x = tell(text);
        for (int i = 0; i < n; i++) {
            x.ask(x.now(0), 1 - x.now(0), kinds[i], 0);
        }
        int p = x.now(0);
        best[1] = N;
        for (int kind = 0; kind < x.count(0); kind++) {
            if (x.hand(p, kind) > 0) {
                kinds[n] = kind;
                int value = valueBehind(text, kinds, n + 1, p);
                if (best[1] == N || value > best[0]) {
                    best[0] = value;
                    best[1] = kind;
                }
            }
        }
    }

    private static int valueBehind(String text, int[] kinds, int n, int p) {
        SevenTable x = tell(text);
        for (int i = 0; i < n; i++) {
            x.ask(x.now(0), 1 - x.now(0), kinds[i], 0);
        }
        if (x.now(0) == N) {
            return x.person(p, 1) - x.person(1 - p, 1);
        }
        int[] best = {0, N};
        bestWay(text, kinds, n, best);
        return x.now(0) == p ? best[0] : -best[0];
    }

    private static void openBehindOpen() {
        SevenTable x = new SevenTable();
        for (int seed = 1; seed <= 12; seed++) {
            write(x, "kinds 3;person a;person b;hand a 0 1;hand a 1 1;hand a 2 2;hand b 0 1;hand b 1 3;hand b 2 1;heap 2 0;");
            x.table();
            is("three kinds", x.open() > -101 && x.first() >= 0, true);
            String text = smallTable(seed);
            write(x, text);
            x.table();
            is("open behind another of " + text, x.open(), tell(text).open());
            is("first behind another of " + text, x.first(), tell(text).first());
        }
        write(x, "kinds 3;person a;person b;hand a 0 1;hand a 2 2;hand b 1 1;hand b 2 1;");
        x.table();
        is("no book can be", x.open(), 0);
        write(x, "kinds 2;person a;person b;hand a 0 2;hand b 0 2;hand b 1 3;heap 1;");
        x.table();
        is("two kinds behind three: a takes 0, b draws 1", x.open(), 0);
    }

    private static void openChanges() {
        SevenTable x = tell("kinds 3;person a;person b;hand a 0 2;hand a 1 1;hand b 0 1;hand b 2 2;heap 0 1 2 1;again;refill 2;");
        String before = picture(x);
        int open = x.open();
        int first = x.first();
        is("the same again", x.open(), open);
        is("the same again", x.first(), first);
        same("nothing changes", picture(x), before);
        is("nothing can be undone", x.undo(), N);
    }

    private static void firstEdges() {
        is("of like ones the least", tell("kinds 3;person a;person b;hand a 1 1;hand a 2 1;hand b 0 1;").first(), 1);
        is("a kind that it has", tell("kinds 3;person a;person b;hand a 2 1;hand b 0 1;hand b 1 1;").first(), 2);
        is("the one that pays", tell("kinds 3;person a;person b;hand a 0 1;hand a 2 1;hand b 0 1;hand b 2 3;").first(), 0);
        is("b asks", tell("kinds 3;person a;person b;hand b 1 1;hand b 2 1;").first(), 1);
        is("nobody", new SevenTable().first(), N);
        is("one", tell("kinds 2;person a;hand a 0 1;").first(), N);
        is("three", tell("kinds 2;" + people(3) + "hand a 0 1;").first(), N);
        is("four kinds", tell("kinds 4;person a;person b;hand a 0 1;").first(), N);
        is("five in the heap", tell("kinds 3;person a;person b;hand a 0 1;heap 1 1 1 1 2;").first(), N);
        is("four in the heap", tell("kinds 3;person a;person b;hand a 0 1;heap 1 1 1 1;").first(), 0);
    }

    public static void main(String[] args) {
        sentence("each card by itself", EdgesOfOddsTest::eachCardByItself);
        sentence("who sees its own hand, all BOOKS, how many cards each one has, and what is KNOWN",
                EdgesOfOddsTest::whatItSees);
        sentence("what is KNOWN: all ways in which", EdgesOfOddsTest::oneIsKnown);
        sentence("others that can't be a KIND not being it", EdgesOfOddsTest::cantBe);
        sentence("0 above, 1 below, in least terms", EdgesOfOddsTest::leastTerms);
        sentence("more than 12 others in other hands", EdgesOfOddsTest::twelveOthers);
        sentence("nor knows, are the others of the other hands", EdgesOfOddsTest::knownAreNoOthers);
        sentence("more than 6 KINDS that it does not see all of", EdgesOfOddsTest::sixKinds);
        sentence("no way at all", EdgesOfOddsTest::noWay);
        sentence("are alike likely", EdgesOfOddsTest::noWayJust);
        sentence("NoSuchElementException: no such ones, o itself", EdgesOfOddsTest::itselfAndNoSuch);
        sentence("A call that throws changes nothing", EdgesOfOddsTest::throwsChangeNothing);
        sentence("NoSuchElementException likewise, an empty heap", EdgesOfOddsTest::nextEdges);
        sentence("NONE: none such, as odds() throws, no card in hand", EdgesOfOddsTest::whomEdges);
        sentence("KIND by KIND, of these PERSON by PERSON, those who have some", EdgesOfOddsTest::sweepEdges);
        sentence("BOOKS that a PERSON has with what it would SWEEP; NONE: no such one", EdgesOfOddsTest::gainsEdges);
        sentence("0 the least KIND in hand, the next PERSON round (with a card, if one has some; else the next one)",
                EdgesOfOddsTest::bentZero);
        sentence("1 the first (by PERSONS, then KINDS) that is KNOWN of another one and that it has itself, else as 0",
                EdgesOfOddsTest::bentOne);
        sentence("2 the KIND of which it has most (of like ones the least), of whoever else has most cards (of like ones "
                + "the first by number)", EdgesOfOddsTest::bentTwo);
        sentence("3 the KIND that it drew last, if it has it, else as 0", EdgesOfOddsTest::bentThree);
        sentence("NONE: no such ones, one alone, no card", EdgesOfOddsTest::bentNone);
        sentence("OPEN: two PERSONS, 3 KINDS, 4 cards in the heap at most", EdgesOfOddsTest::openAsTold);
        sentence("NONE - 100: not as told, OVER", EdgesOfOddsTest::openOver);
        sentence("BOOKS more than the other one's (below 0: fewer)", EdgesOfOddsTest::openFewer);
        sentence("that who is on TURN has in the end, both asking for the KIND that is best for themselves",
                EdgesOfOddsTest::openWithRefill);
        sentence("both asking for the KIND that is best for themselves (no LIES)", EdgesOfOddsTest::openAllWays);
        sentence("all being seen: BOOKS more than", EdgesOfOddsTest::openBehindOpen);
        sentence("OPEN: two PERSONS", EdgesOfOddsTest::openChanges);
        sentence("(of like ones the least); NONE: not as told, OVER", EdgesOfOddsTest::firstEdges);
        finish("edges of odds");
    }
}
