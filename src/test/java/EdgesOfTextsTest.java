/** The edges of the three texts and their faults: a test for each sentence of the section Terms that names one. */
public final class EdgesOfTextsTest extends Check {
    private static final String[] WORDS = {"kinds", "person", "hand", "heap", "again", "refill", "asks", "gives", "no",
        "or", "and", "not", "book", "known", "held", "hands", "heaped", "most", "place"};
    private static final String ASKING = "a asks b 0 no;";
    private static final String TWO = "kinds 2;person a;person b;";

    private static void blanks() {
        tableFine("", 0);
        tableFine(" ", 0);
        tableFine("\n", 0);
        tableFine(" \n \n\n", 0);
        tableFine("again;refill 1;kinds 2;person a;", 4);
        tableFine("\n again \n ; \n refill \n 1 \n ; kinds\n2\n;person\n\na ; ", 4);
        eveningFine("a\nasks\nb\n0\nno\n;\n", 1);
        eveningFine("a asks b 0 no ; a asks b 0 gives 1 ; ", 2);
        sentenceFine("not(book)", 3);
        sentenceFine("\nnot\n(\nbook\n)\n", 3);
        sentenceFine("hands<1 and(heaped>2)or not(most=3)", 6);
        int[] noBlanks = {0, 1, 8, 9, 11, 12, 13, 14, 31, 33, 127, 128, 133, 160, 255};
        for (int sign : noBlanks) {
            String b = String.valueOf((char) sign);
            tableFault("kinds" + b + "2;", 1, 5);
            tableFault(b, 1, 0);
            eveningFault("a" + b + "asks b 0 no;", 1, 1);
            sentenceFault("not " + b + "book", 1, 4);
        }
    }

    private static void words() {
        String[] fine = {"a", "z", "az", "zzzzzzz", "aaaaaaa", "abcdefg"};
        for (String name : fine) {
            SevenTable x = tell("kinds 2;person " + name + ";hand " + name + " 1 2;");
            is("told by " + name, x.hand(0, 1), 2);
        }
        tableFault("person abcdefgh;", 1, 7);
        tableFault("person " + times("a", 40) + ";", 1, 7);
        tableFine("person a;person aa;person aaa;person aaaa;person aaaaaaa;", 5);
        tableFine("person abcdefg;person abcdefh;person bbcdefg;", 3);
        String outside = "`{@A[Z_'-";
        for (int i = 0; i < outside.length(); i++) {
            tableFault("person " + outside.charAt(i) + ";", 1, 7);
            tableFault("person a" + outside.charAt(i) + ";", 1, 8);
        }
        eveningFault("abcdefgh asks b 0 no;", 1, 0);
        sentenceFault("held abcdefgh", 1, 5);
        sentenceFault("abcdefgh", 1, 0);
    }

    private static void numbers() {
        String[] fine = {"9", "09", "009"};
        for (String number : fine) {
            is("refill " + number, tell("refill " + number + ";").count(3), 9);
            is("kinds " + number, tell("kinds " + number + ";").count(0), 9);
        }
        tableFault("refill 0009;", 1, 7);
        tableFault("kinds 00000000000000000002;", 1, 6);
        tableFault("kinds 2000000000;", 1, 6);
        tableFault("kinds 4294967298;", 1, 6);
        tableFault("kinds 999;", 2, 6);
        tableFault("kinds 1000;", 1, 6);
        tableFault("kinds /;", 1, 6);
        tableFault("kinds :;", 1, 6);
        tableFault("kinds -2;", 1, 6);
        tableFault("kinds +2;", 1, 6);
        sentenceFine("place < 999", 1);
        sentenceFine("place < 000", 1);
        sentenceFault("place < 1000", 1, 8);
        sentenceFault("place < 0001", 1, 8);
        eveningFault("a asks b 0000 no;", 1, 9);
    }

    private static void goesOn() {
        tableFault("kinds2;", 1, 0);
        tableFault("kinds 2a;", 1, 6);
        tableFault("kinds a2;", 1, 6);
        tableFault("2;", 1, 0);
        tableFault("2kinds 2;", 1, 0);
        tableFault("again0;", 1, 0);
        tableFault("againx;", 1, 0);
        tableFault("person a1;", 1, 7);
        tableFault("person 1a;", 1, 7);
        tableFault("person abcdefg1;", 1, 7);
        tableFault("kinds 123a;", 1, 6);
        tableFault(TWO + "hand a 0 1b;", 1, TWO.length() + 9);
        tableFault(TWO + "heap 0 1 0b;", 1, TWO.length() + 9);
        eveningFault("a asks b0 no;", 1, 7);
        eveningFault("a asks b 0no;", 1, 9);
        sentenceFault("book1", 1, 0);
        sentenceFault("place<1or book", 1, 6);
        sentenceFine("place<1 or book", 2);
    }

    private static void signs() {
        String all = ";<=>().,:+*/?!#-[]\"";
        for (int i = 0; i < all.length(); i++) {
            String sign = all.substring(i, i + 1);
            tableFault(sign, 1, 0);
            tableFault("kinds 2" + (sign.equals(";") ? ";;" : sign), 1, sign.equals(";") ? 8 : 7);
            eveningFault("a asks b 0 no" + (sign.equals(";") ? ";;" : sign), 1, sign.equals(";") ? 14 : 13);
            if (!sign.equals("(")) {
                sentenceFault(sign, 1, 0);
            }
            sentenceFault("book " + sign, 1, 5);
        }
    }

    private static void tableBytes() {
        tableFine(endingAt(899, "again;"), 1);
        tableFine(endingAt(900, "again;"), 1);
        tableFine("again;" + times("\n", 894), 1);
        tableFine(times(" ", 900), 0);
        tableFault(endingAt(901, "again;"), 1, 900);
        tableFault("again;" + times(" ", 895), 1, 900);
        tableFault("again;" + times(" ", 934), 1, 900);
        tableFault(times(" ", 901), 1, 900);
        tableFault(times(" ", 940), 1, 900);
        tableFault(endingAt(900, "again"), 1, 900);
        tableFault(endingAt(900, "again;again;"), 3, 894);
    }

    private static void eveningBytes() {
        eveningFine(endingAt(500, ASKING), 1);
        eveningFine(ASKING + times(" ", 486), 1);
        eveningFine(times(" ", 500), 0);
        eveningFault(endingAt(501, ASKING), 1, 500);
        eveningFault(ASKING + times(" ", 487), 1, 500);
        eveningFault(times("\n", 501), 1, 500);
        eveningFault(times(" ", 940), 1, 500);
        eveningFault(endingAt(500, "a asks b 0 no"), 1, 500);
        eveningFault(endingAt(500, "a asks b 0 gives 5;"), 2, 498);
    }

    private static void sentenceBytes() {
        sentenceFine(endingAt(200, "book"), 1);
        sentenceFine("book" + times(" ", 196), 1);
        sentenceFault("book" + times(" ", 197), 1, 200);
        sentenceFault(times(" ", 200), 1, 200);
        sentenceFault(times(" ", 201), 1, 200);
        sentenceFault(times(" ", 940), 1, 200);
        sentenceFault(endingAt(201, "not book)"), 1, 200);
        sentenceFault(endingAt(200, "book)"), 1, 199);
    }

    private static void readWhole() {
        tableFault(endingAt(905, "again;"), 1, 900);
        tableFault(times(" ", 899) + "again;", 1, 900);
        tableFault(times(" ", 899) + "agains;", 1, 899);
        tableFault(times(" ", 899) + "againsagains;", 1, 899);
        tableFault(times(" ", 892) + "refill 10;", 2, 899);
        tableFault(times(" ", 892) + "refill 0010;", 1, 899);
        tableFault(times(" ", 892) + "refill 9 ;", 1, 900);
        tableFault(times(" ", 893) + "refill 10;", 1, 900);
        tableFault(times(" ", 900) + "z", 1, 900);
        tableFault(times(" ", 899) + ";", 1, 899);
        tableFault(times(" ", 899) + "\u00ff ", 1, 899);
        eveningFault(times(" ", 499) + "ab asks", 3, 499);
        eveningFault(times(" ", 499) + "a asks", 1, 500);
        eveningFault(times(" ", 500) + "ab asks", 1, 500);
        eveningFault(times(" ", 482) + "a asks b 0 gives 10;", 2, 499);
        eveningFault(times(" ", 483) + "a asks b 0 gives 10;", 1, 500);
        sentenceFault(times(" ", 191) + "place < 1000", 1, 199);
        sentenceFault(times(" ", 191) + "place < 100", 1, 200);
        sentenceFault(times(" ", 192) + "place < 1000", 1, 200);
        sentenceFault(times(" ", 199) + "book", 1, 200);
        sentenceFault(times(" ", 199) + "books", 1, 199);
    }

    private static void kindsLine() {
        is("least", tell("kinds 2;").count(0), 2);
        is("most", tell("kinds 13;").count(0), 13);
        tableFault("kinds 0;", 2, 6);
        tableFault("kinds 1;", 2, 6);
        tableFault("kinds 14;", 2, 6);
        tableFault("kinds;", 1, 5);
        tableFault("kinds a;", 1, 6);
        tableFault("kinds kinds;", 1, 6);
        tableFault("kinds 2 2;", 1, 8);
        tableFault("kinds 2;kinds 2;", 3, 8);
        tableFault("kinds 2;kinds 99;", 3, 8);
        tableFault("kinds 2;person a;again;kinds", 3, 23);
    }

    private static void kindsAhead() {
        tableFault("person a;hand a 0 1;kinds 2;", 2, 16);
        tableFault("heap 0;kinds 2;", 2, 5);
        tableFault("heap 5 0;", 2, 5);
        is("behind persons", tell("person a;again;refill 2;kinds 2;hand a 1 1;heap 0;").count(0), 2);
        is("alone", tell("person a;again;refill 2;").count(0), 0);
    }

    private static void handLine() {
        is("kind 0", tell(TWO + "hand a 0 1;").hand(0, 0), 1);
        is("the last kind", tell(TWO + "hand b 1 3;").hand(1, 1), 3);
        is("the last of thirteen", tell("kinds 13;person a;hand a 12 2;").hand(0, 12), 2);
        is("four are told, and laid down", tell(TWO + "hand a 0 4;").book(0), 0);
        int n = TWO.length();
        tableFault(TWO + "hand a 2 1;", 2, n + 7);
        tableFault(TWO + "hand a 13 1;", 2, n + 7);
        tableFault(TWO + "hand a 0 0;", 2, n + 9);
        tableFault(TWO + "hand a 0 5;", 2, n + 9);
        tableFault(TWO + "hand a 0 999;", 2, n + 9);
        tableFault(TWO + "hand a 0;", 1, n + 8);
        tableFault(TWO + "hand a;", 1, n + 6);
        tableFault(TWO + "hand;", 1, n + 4);
        tableFault(TWO + "hand 0 0 1;", 1, n + 5);
        tableFault(TWO + "hand a 0 1 1;", 1, n + 11);
        tableFault(TWO + "hand z 0 1;", 3, n + 5);
        tableFault(TWO + "hand z 9 9;", 3, n + 5);
    }

    private static void eachTwoOnce() {
        tableFault(TWO + "hand a 0 1;hand a 0 1;", 3, TWO.length() + 18);
        tableFault(TWO + "hand a 0 4;hand a 0 1;", 3, TWO.length() + 18);
        tableFault(TWO + "hand a 1 1;hand b 1 1;hand a 0 1;hand a 1 9;", 3, TWO.length() + 40);
        tableFine(TWO + "hand a 0 1;hand a 1 1;hand b 0 1;hand b 1 1;", 7);
    }

    private static void heapLine() {
        is("one", tell("kinds 2;heap 1;").heap(0), 1);
        tableFault("kinds 2;heap;", 1, 12);
        tableFault("kinds 2;heap", 1, 12);
        tableFault("kinds 2;heap a;", 1, 13);
        tableFault("kinds 2;heap 0 a;", 1, 15);
        tableFault("kinds 2;heap 2;", 2, 13);
        tableFault("kinds 2;heap 0 1 2;", 2, 17);
        tableFault("kinds 2;heap 0 heap 1;", 1, 15);
        SevenTable x = tell("kinds 3;heap 2 0;person a;heap 1;heap 2 2;");
        int[] due = {2, 0, 1, 2, 2, N};
        for (int i = 0; i < due.length; i++) {
            is("they come behind: " + i, x.heap(i), due[i]);
        }
        SevenTable all = tell("kinds 13;heap" + times(" 0 1 2 3 4 5 6 7 8 9 10 11 12", 4) + ";");
        is("all 52", all.now(1), 52);
        String full = "kinds 13;heap" + times(" 0 1 2 3 4 5 6 7 8 9 10 11 12", 4);
        tableFault(full + " 12;", 5, full.length() + 1);
        tableFault(full + " 13;", 2, full.length() + 1);
        tableFault(full + " 12", 5, full.length() + 1);
        is("the last", all.heap(51), 12);
        is("behind", all.heap(52), N);
    }

    private static void againAndRefill() {
        is("again", tell("again;").count(2), 1);
        is("without", tell("").count(2), 0);
        tableFault("again;again;", 3, 6);
        tableFault("again 1;", 1, 6);
        is("refill 0", tell("refill 0;").count(3), 0);
        is("refill 9", tell("refill 9;").count(3), 9);
        is("0 without", tell("again;").count(3), 0);
        tableFault("refill 10;", 2, 7);
        tableFault("refill;", 1, 6);
        tableFault("refill 0;refill 0;", 3, 9);
        tableFault("refill 0;refill 10;", 3, 9);
        tableFault("refill 3;again;refill", 3, 15);
    }

    private static void names() {
        for (String word : WORDS) {
            tableFault("person " + word + ";", 1, 7);
            tableFault(TWO + "hand " + word + " 0 1;", 1, TWO.length() + 5);
            eveningFault(word + " asks b 0 no;", 1, 0);
            eveningFault("a asks " + word + " 0 no;", 1, 7);
            sentenceFault("held " + word, 1, 5);
            String near = word.length() < 7 ? word + "x" : word;
            tableFine("person " + near + ";person x" + word.substring(1) + ";person y;", 3);
        }
        tableFault("person;", 1, 6);
        tableFault("person", 1, 6);
        tableFault("person 5;", 1, 7);
        tableFault("person a b;", 1, 9);
        tableFault("person a;person a;", 3, 16);
        tableFault("person a;person b;person d;person b;", 3, 34);
    }

    private static void sixPersons() {
        SevenTable x = tell(people(6));
        is("six", x.count(1), 6);
        tableFault(people(6) + "person z;", 4, 54);
        tableFault(people(6) + "person a;", 4, 54);
        tableFault(people(6) + "person;", 4, 54);
        tableFault(people(6) + "again; person", 4, 61);
        tableFault(people(5) + "person a;", 3, 52);
        SevenTable y = tell("kinds 2;" + people(6) + "hand a 0 1;hand g 1 2;");
        is("numbered from 0", y.hand(0, 0), 1);
        is("up to 5", y.hand(5, 1), 2);
        is("no 6", handThrows(y, 6, 0), true);
    }

    private static void fourOfAKind() {
        int n = TWO.length();
        is("four in two hands", tell(TWO + "hand a 0 3;hand b 0 1;").now(5), 4);
        is("four in hand and heap", tell(TWO + "hand a 0 3;heap 0;").now(5), 4);
        is("four in the heap", tell(TWO + "heap 0 0 0 0;").now(5), 4);
        tableFault(TWO + "hand a 0 3;hand b 0 2;", 5, n + 20);
        tableFault(TWO + "hand a 0 4;hand b 0 1;", 5, n + 20);
        tableFault(TWO + "hand a 0 4;heap 0;", 5, n + 16);
        tableFault(TWO + "hand a 0 2;heap 0 1 0 1 0;", 5, n + 24);
        tableFault(TWO + "heap 0 0 0 0 0;", 5, n + 13);
        tableFault(TWO + "heap 0 0 0 0;heap 1 0;", 5, n + 20);
        tableFault(TWO + "heap 0 0 0;hand b 0 2;", 5, n + 20);
        tableFault(TWO + "heap 0 0 0 0;hand b 0 1;", 5, n + 22);
        tableFine(TWO + "hand a 0 2;hand b 0 2;hand a 1 1;hand b 1 3;", 7);
    }

    private static void thirtyLines() {
        String lines = times("a asks b 0 no;b asks a 1 no;", 15);
        String heap = "heap";
        for (int kind = 2; kind < 13; kind++) {
            heap += times(" " + kind, 4);
        }
        SevenTable x = tell("kinds 13;person a;person b;hand a 0 1;hand b 1 1;" + heap + ";");
        is("29 lines", evening(x, lines.substring(0, 29 * 14), 0), N);
        is("29 lines", x.heard(1), 29);
        is("30 lines", evening(x, lines, 1), N);
        is("30 lines", x.heard(1), 30);
        is("30 askings", x.now(2), 30);
        eveningFault(lines + "a", 4, 420);
        eveningFault(lines + "a asks b 0 no;", 4, 420);
        eveningFault(lines + " \n b asks a 1 no;", 4, 423);
        eveningFault(lines + "a gives 9", 4, 420);
        eveningFault(times(ASKING, 29) + "a asks b 9 no;" + ASKING, 2, 415);
    }

    private static void eveningLine() {
        eveningFine("", 0);
        eveningFine("a asks b 0 gives 1;a asks b 2 gives 4;d asks d 2 no;", 3);
        eveningFault("a asks b 0 gives 0;", 2, 17);
        eveningFault("a asks b 0 gives 5;", 2, 17);
        eveningFault("a asks b 0 gives no;", 1, 17);
        eveningFault("a asks b 0 gives;", 1, 16);
        eveningFault("a asks b 0 no 1;", 1, 14);
        eveningFault("a asks b 3 no;", 2, 9);
        eveningFault("a asks b 0;", 1, 10);
        eveningFault("a asks b 0 a;", 1, 11);
        eveningFault("a asks b;", 1, 8);
        eveningFault("a asks;", 1, 6);
        eveningFault("a;", 1, 1);
        eveningFault("a", 1, 1);
        eveningFault("a asks b 0 no", 1, 13);
        eveningFault("a asks b 0 no ", 1, 14);
        eveningFault("0 asks b 0 no;", 1, 0);
        eveningFault("a b;", 1, 2);
        eveningFault("z asks b 0 no;", 3, 0);
        eveningFault("a asks z 9 no;", 3, 7);
        SevenTable x = tell("person a;person b;");
        is("a kind without kinds", evening(x, ASKING, 0), -11);
        is("a kind without kinds", x.fault(), 2);
        SevenTable nobody = tell("kinds 2;");
        is("no name is told", evening(nobody, ASKING, 0), -2);
        is("no name is told", nobody.fault(), 3);
        is("but an empty evening is fine", nobody.evening(0), N);
        is("but an empty evening is fine", nobody.fault(), 0);
    }

    private static void twentyOnes() {
        sentenceFine(times("book or ", 19) + "book", 20);
        sentenceFine(times("book and ", 19) + "book", 20);
        sentenceFine(times("not book or ", 9) + "not book", 20);
        sentenceFine(times("(book)or", 9) + "(book)", 20);
        sentenceFault(times("book or ", 20) + "book", 4, 160);
        sentenceFault(times("book and ", 20) + "not book", 4, 180);
        sentenceFault(times("not book or ", 10) + "(book)", 4, 120);
        sentenceFault(times("book or ", 19) + "not book", 4, 156);
        sentenceFault(times("book or ", 19) + "(hands", 4, 153);
        sentenceFault(times("(book)or", 10) + " held z", 4, 81);
        sentenceFault(times("book or ", 20) + "z", 1, 160);
        sentenceFault(times("book or ", 20) + ")", 1, 160);
        sentenceFault(times("book or ", 20), 1, 160);
        sentenceFault(times("book or ", 19) + "book)", 1, 156);
    }

    private static void eightWithin() {
        sentenceFine(times("(", 7) + "book" + times(")", 7), 8);
        sentenceFine(times("not ", 7) + "book", 8);
        sentenceFine(times("not(", 3) + "not book" + times(")", 3), 8);
        sentenceFine(times("(", 7) + "book or book and book" + times(")", 7), 10);
        sentenceFine(times("not ", 7) + "book or " + times("(", 7) + "held a" + times(")", 7), 16);
        sentenceFault(times("(", 8) + "book" + times(")", 8), 4, 8);
        sentenceFault(times("(", 9) + "book" + times(")", 9), 4, 8);
        sentenceFault(times("not ", 8) + "book", 4, 32);
        sentenceFault(times("not ", 9) + "book", 4, 32);
        sentenceFault(times("not(", 4) + "hands > 2" + times(")", 4), 4, 16);
        sentenceFault("book or " + times("not ", 8) + "held z", 4, 40);
        sentenceFine(times("(", 7) + "book" + times(")", 7) + " and not (book)", 11);
        sentenceFault(times("(", 7) + "book or (book)", 4, 16);
        sentenceFault(times("(", 8) + "book or (book)", 4, 8);
        sentenceFault(times("(", 8) + "z", 1, 8);
        sentenceFault(times("(", 8) + ")", 1, 8);
        sentenceFault(times("not ", 8), 1, 32);
    }

    private static void sentenceGrammar() {
        sentenceFault("", 1, 0);
        sentenceFault(" \n", 1, 2);
        sentenceFault("()", 1, 1);
        sentenceFault("(book", 1, 5);
        sentenceFault("(book))", 1, 6);
        sentenceFault("not", 1, 3);
        sentenceFault("not or book", 1, 4);
        sentenceFault("book or", 1, 7);
        sentenceFault("book and", 1, 8);
        sentenceFault("or book", 1, 0);
        sentenceFault("book not book", 1, 5);
        sentenceFault("book;", 1, 4);
        sentenceFault("5", 1, 0);
        sentenceFault("a", 1, 0);
        sentenceFault("kinds > 2", 1, 0);
        sentenceFault("held", 1, 4);
        sentenceFault("held 0", 1, 5);
        sentenceFault("known z", 3, 6);
        sentenceFault("held ab", 3, 5);
        String[] measures = {"hands", "heaped", "most", "place"};
        for (String word : measures) {
            sentenceFine(word + "<0", 1);
            sentenceFine(word + "=0", 1);
            sentenceFine(word + ">0", 1);
            sentenceFault(word, 1, word.length());
            sentenceFault(word + " 5", 1, word.length() + 1);
            sentenceFault(word + "(", 1, word.length());
            sentenceFault(word + "<", 1, word.length() + 1);
            sentenceFault(word + "<=1", 1, word.length() + 1);
            sentenceFault(word + "<a", 1, word.length() + 1);
        }
    }

    private static void measures() {
        SevenTable x = tell("kinds 13;person a;person b;hand a 0 4;hand a 1 3;hand b 1 1;hand b 2 2;heap 2 2 3 3 3 3;");
        said(x, "hands = 0", 0b1111111111001);
        said(x, "hands < 0", 0);
        said(x, "hands > 0", 0b110);
        said(x, "hands = 4", 0b10);
        said(x, "hands > 4", 0);
        said(x, "hands < 999", 0b1111111111111);
        said(x, "heaped = 4", 0b1000);
        said(x, "heaped > 1", 0b1100);
        said(x, "heaped > 2", 0b1000);
        said(x, "heaped < 1", 0b1111111110011);
        said(x, "most = 3", 0b10);
        said(x, "most < 3", 0b1111111111101);
        said(x, "most > 1", 0b110);
        said(x, "most < 1", 0b1111111111001);
        said(x, "most = 0", 0b1111111111001);
        said(x, "most < 0", 0);
        said(tell("kinds 2;heap 0;"), "most < 0", 0);
        said(tell("kinds 2;heap 0;"), "most = 0 and hands = 0", 0b11);
        said(x, "place = 0", 1);
        said(x, "place = 12", 0b1000000000000);
        said(x, "place > 12", 0);
        said(x, "place < 1", 1);
        said(x, "book", 1);
        said(x, "not book and not held a and not held b", 0b1111111111000);
        said(x, "held a", 0b10);
        said(x, "known a", 0);
    }

    private static void joined() {
        SevenTable x = tell("kinds 4;person a;person b;hand a 0 1;hand a 1 1;hand b 1 1;hand b 2 1;heap 3;");
        said(x, "held a or held b", 0b111);
        said(x, "held a and held b", 0b10);
        said(x, "not held a or held b", 0b1110);
        said(x, "not held a and held b", 0b100);
        said(x, "not (held a or held b)", 0b1000);
        said(x, "not (held a and held b)", 0b1101);
        said(x, "not not held a", 0b11);
        said(x, "place = 3 or held a and held b", 0b1010);
        said(x, "held a and held b or place = 3", 0b1010);
        said(x, "(place = 3 or held a) and held b", 0b10);
        said(x, "held b and (place = 3 or held a)", 0b10);
        said(x, "held a or held b and place = 3", 0b11);
        said(x, "(held a or held b) and place = 3", 0);
        said(x, "place = 0 or place = 1 or place = 2 or place = 3", 0b1111);
        said(x, "place > 0 and place < 3 and place = 2", 0b100);
        said(x, "place = 0 and held a or place = 2 and held b or place = 3 and held a", 0b101);
        said(x, "((((((held a or (held b)))))))", 0b111);
        said(x, "known a", 0);
        x.ask(0, 1, 0, 0);
        said(x, "known a", 0b1);
        said(x, "known b", 0);
        said(x, "held a and not known a", 0b1010);
    }

    private static void said(SevenTable x, String text, int bits) {
        sentenceOf(x, text);
        int found = 0;
        for (int k = 0; k < x.said(N); k++) {
            found |= 1 << x.said(k);
        }
        is(text, found, bits);
        is("how many: " + text, x.said(N), Integer.bitCount(bits));
        is("behind the last: " + text, x.said(Integer.bitCount(bits)), N);
    }

    private static void firstAlong() {
        tableFault("kinds 1;kinds 99;again;again;", 2, 6);
        tableFault("again;again;kinds 1;", 3, 6);
        tableFault("person a;hand b 0 1;heap;", 3, 14);
        tableFault(TWO + "heap 0 0 0 0 0 9;", 5, TWO.length() + 13);
        tableFault(TWO + "heap 0 0 0 9 0;", 2, TWO.length() + 11);
        tableFault("again; ? again;", 1, 7);
        eveningFault("a asks b 9 no;z asks b 0 no;", 2, 9);
        eveningFault("a asks b 0 no;z asks b 9 no;", 3, 14);
        sentenceFault("held z or ?", 3, 5);
        sentenceFault("book ? held z", 1, 5);
        tableFault("again;again;" + times(" ", 900), 3, 6);
    }

    private static void leastOfOneToken() {
        int n = TWO.length();
        tableFault(TWO + "hand a 0 4;hand b 0 5;", 2, n + 20);
        tableFault(TWO + "hand a 0 4;hand b 0 0;", 2, n + 20);
        tableFault(TWO + "heap 0 0 0 0 2;", 2, n + 13);
        tableFault(people(6) + "person a;", 4, 54);
        eveningFault(times(ASKING, 30) + "z", 3, 420);
        eveningFault(times(ASKING, 30) + "no", 1, 420);
        eveningFault(times(ASKING, 30) + "?", 1, 420);
        eveningFault(times(ASKING, 30) + "0", 1, 420);
        eveningFault(times(ASKING, 30) + ";", 1, 420);
        sentenceFault(times("book or ", 13) + times("(", 8) + "book", 4, 104 + 7);
        sentenceFault(times("book or ", 12) + times("(", 8) + "book", 4, 96 + 8);
        sentenceFault(times("book or ", 12) + times("(", 8) + "a", 1, 96 + 8);
    }

    private static void placeOfTheEnd() {
        tableFault("kinds", 1, 5);
        tableFault("kinds ", 1, 6);
        tableFault("kinds \n \n", 1, 9);
        tableFault("kinds 2", 1, 7);
        tableFault("kinds 2 \n", 1, 9);
        eveningFault("a asks b 0 gives ", 1, 17);
        sentenceFault("not (book or ", 1, 13);
        sentenceFault("hands > ", 1, 8);
    }

    public static void main(String[] args) {
        sentence("TOKENS of all texts, with blanks (32, 10) between them or not", EdgesOfTextsTest::blanks);
        sentence("WORDS: small letters, 1 to 7", EdgesOfTextsTest::words);
        sentence("NUMBERS: 1 to 3 digits", EdgesOfTextsTest::numbers);
        sentence("A WORD, NUMBER goes on as long as small letters and digits do", EdgesOfTextsTest::goesOn);
        sentence("what is not as told is no TOKEN", EdgesOfTextsTest::signs);
        sentence("A TABLE is a text of at most 900 bytes", EdgesOfTextsTest::tableBytes);
        sentence("An EVENING is a text of at most 500 bytes", EdgesOfTextsTest::eveningBytes);
        sentence("A SENTENCE is a text of at most 200 bytes", EdgesOfTextsTest::sentenceBytes);
        sentence("the most bytes told, if there are more and no FAULT is ahead: TOKENS that begin ahead of it are read "
                + "whole", EdgesOfTextsTest::readWhole);
        sentence("'kinds' K (2 to 13; once", EdgesOfTextsTest::kindsLine);
        sentence("ahead of all hands and the heap", EdgesOfTextsTest::kindsAhead);
        sentence("'hand' PERSON KIND N (below K; 1 to 4", EdgesOfTextsTest::handLine);
        sentence("each two once", EdgesOfTextsTest::eachTwoOnce);
        sentence("'heap' KIND { KIND } (they come behind the heap)", EdgesOfTextsTest::heapLine);
        sentence("'again' (once) | 'refill' N (0 to 9; once; 0 without)", EdgesOfTextsTest::againAndRefill);
        sentence("NAME: a WORD, none of those told here, in an EVENING or a SENTENCE; told once", EdgesOfTextsTest::names);
        sentence("6 PERSONS at most, numbered from 0", EdgesOfTextsTest::sixPersons);
        sentence("Of a KIND there are 4 cards at most in hands and heap", EdgesOfTextsTest::fourOfAKind);
        sentence("30 LINES at most", EdgesOfTextsTest::thirtyLines);
        sentence("{ PERSON 'asks' PERSON KIND ( 'gives' N | 'no' ) ; }", EdgesOfTextsTest::eveningLine);
        sentence("20 ONES", EdgesOfTextsTest::twentyOnes);
        sentence("8 within one another", EdgesOfTextsTest::eightWithin);
        sentence("COND: ALL { 'or' ALL }", EdgesOfTextsTest::sentenceGrammar);
        sentence("cards of it in all hands, in the heap; the most in one hand; its number", EdgesOfTextsTest::measures);
        sentence("ALL: ONE { 'and' ONE }. ONE: 'not' ONE | ( COND )", EdgesOfTextsTest::joined);
        sentence("FAULTS, the first along the text", EdgesOfTextsTest::firstAlong);
        sentence("of one TOKEN the least", EdgesOfTextsTest::leastOfOneToken);
        sentence("the end: how many bytes there are", EdgesOfTextsTest::placeOfTheEnd);
        finish("edges of texts");
    }
}
