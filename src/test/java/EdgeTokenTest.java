/** The edges that 'Terms' names for TOKENS, and for FAULTS of all texts: each sentence by itself. */
public final class EdgeTokenTest {
    private static final String PARK = "place a;place b;person p a 1 2 3;dog d p 1 1;";
    private static final String WORDS = "place fenced person dog free sign allow forbid fence held loose comes day"
            + " or and not away owner meets at frights bites good number";

    private static final Due due = new Due();

    public static void main(String[] args) {
        blanks();
        otherBytesAreNoBlanks();
        wordsOfOneToSevenLetters();
        numbersOfOneToThreeDigits();
        wordsAndNumbersGoOn();
        namesAreOtherWords();
        theFirstFault();
        theLeastFaultOfOneToken();
        faultsAtTheEnd();
        faultsBehindTheMostBytes();
        tokensAheadOfTheMostBytes();
        due.finish("EdgeTokenTest");
    }

    private static void park(String text, int answer, int kind) {
        OffTheLead x = Due.parkOf(PARK);
        due.is("park '" + text + "'", Due.park(x, text), answer);
        due.is("fault of park '" + text + "'", x.fault(), kind);
    }

    private static void book(String text, int answer, int kind) {
        OffTheLead x = Due.parkOf(PARK);
        due.is("book '" + text + "'", Due.book(x, text, 0), answer);
        due.is("fault of book '" + text + "'", x.fault(), kind);
    }

    private static void sentence(String text, int answer, int kind) {
        OffTheLead x = Due.parkOf(PARK);
        due.is("sentence '" + text + "'", Due.sentence(x, text), answer);
        due.is("fault of sentence '" + text + "'", x.fault(), kind);
    }

    // "TOKENS of all texts, with blanks (32, 10) between them or not"
    private static void blanks() {
        park("place a;free a 1 2;", 2, 0);
        park("\n place\na \n;\n\nfree  a\n1\n 2 ;\n ", 2, 0);
        book("fence a;sign 3;", -1, 0);
        book(" \nfence\na\n; sign  3 \n;\n", -1, 0);
        sentence("not(away)or number<3", 4, 0);
        sentence(" \nnot\n(\naway )\nor number\n<\n3\n", 4, 0);
        park("place a free a 1 2;", -9, 1);
        park("place\na\n\nplace", -10, 1);
    }

    // "(32, 10)": every other byte is one that can't come behind a LINE or a ONE
    private static void otherBytesAreNoBlanks() {
        for (int b = 0; b < 256; b++) {
            boolean blank = b == 32 || b == 10;
            boolean letter = b >= 'a' && b <= 'z';
            park("place c;" + (char) b, blank ? 1 : -9, blank ? 0 : 1);
            park("place " + (char) b + "c;", blank ? 1 : letter ? 1 : -7, blank || letter ? 0 : 1);
            int ofBook = blank ? 0 : b == 'p' || b == 'd' ? 1 : letter ? 3 : 1;
            book("fence a;" + (char) b, blank ? -1 : b == 'p' || b == 'd' ? -11 : -10, ofBook);
            sentence("away " + (char) b, blank ? 1 : -6, blank ? 0 : 1);
        }
    }

    // "WORDS: small letters, 1 to 7"; "what is not as told is no TOKEN"
    private static void wordsOfOneToSevenLetters() {
        String letters = "zyxwvutsrq";
        for (int n = 1; n <= 10; n++) {
            String name = letters.substring(0, n);
            park("place " + name + ";", n <= 7 ? 1 : -7, n <= 7 ? 0 : 1);
            park("place c;person " + name + " c 1 2 3;", n <= 7 ? 2 : -16, n <= 7 ? 0 : 1);
            park("place c;person q c 1 2 3;dog " + name + " q 1 2;", n <= 7 ? 3 : -30, n <= 7 ? 0 : 1);
            park("place c;free " + name + " 1 2;", -14, n <= 7 ? 3 : 1);
            book(name + " held;", -2, n <= 7 ? 3 : 1);
            book("fence " + name + ";", -8, n <= 7 ? 3 : 1);
            sentence("at " + name, -4, n <= 7 ? 3 : 1);
            sentence("meets " + name, -7, n <= 7 ? 3 : 1);
        }
        OffTheLead x = Due.parkOf("place abcdefg;place abcdef;person bcdefgh abcdefg 1 2 3;dog cdefghi bcdefgh 1 1;");
        due.is("all by their names", Due.book(x, "cdefghi held;bcdefgh comes abcdef 1 2;fence abcdefg;", 0), -1);
        park("place A;", -7, 1);
        park("Place c;", -1, 1);
    }

    // "NUMBERS: 1 to 3 digits"
    private static void numbersOfOneToThreeDigits() {
        park("sign 7;", 1, 0);
        park("sign 07;", 1, 0);
        park("sign 007;", 1, 0);
        park("sign 0007;", -6, 1);
        park("sign 999;", -6, 2);
        park("sign 1000;", -6, 1);
        park("sign ;", -6, 1);
        park("place c;person q c 001 002 003;", 2, 0);
        park("place c;person q c 0001 2 3;", -20, 1);
        book("day 001;", -1, 0);
        book("day 0001;", -6, 1);
        book("day 100;", -6, 2);
        sentence("number<999", 1, 0);
        sentence("number<1000", -8, 1);
        sentence("number<0000", -8, 1);
        sentence("number<000", 1, 0);
        sentence("number=99999999999999999999", -8, 1);
        park("sign 4294967298;", -6, 1);
        park("sign -1;", -6, 1);
    }

    // "A WORD, NUMBER goes on as long as small letters and digits do"
    private static void wordsAndNumbersGoOn() {
        park("place c1;", -7, 1);
        park("place 1c;", -7, 1);
        park("place1 c;", -1, 1);
        park("place c;place1c2 e;", -9, 1);
        park("sign 3x;", -6, 1);
        park("sign3;", -1, 1);
        park("sign x3;", -6, 1);
        park("place c;free c1 2;", -14, 1);
        park("place c;free c 1a2;", -16, 1);
        park("place cfenced;", 1, 0);
        park("place fencedc;", 1, 0);
        book("day3;", -2, 1);
        book("dheld;", -2, 3);
        book("d3 held;", -2, 1);
        sentence("number<3or away", -8, 1);
        sentence("awayor owner", -1, 1);
        sentence("notaway", -1, 1);
        sentence("number3<4", -1, 1);
        sentence("at a1", -4, 1);
        // a sign that is neither ends it
        park("place cB;", -8, 1);
        park("sign 3;sign", -8, 3);
        sentence("number<3)", -9, 1);
        sentence("(number<3)or(away)", 4, 0);
    }

    // "NAME: a WORD, none of those told here, in a BOOK or a SENTENCE"
    private static void namesAreOtherWords() {
        for (String word : WORDS.split(" ")) {
            park("place " + word + ";", -7, 1);
            park("place c;person " + word + " c 1 2 3;", -16, 1);
            park("place c;person q c 1 2 3;dog " + word + " q 1 2;", -30, 1);
            park("place c;person q " + word + " 1 2 3;", -18, 1);
            park("place c;person q c 1 2 3;dog e " + word + " 1 2;", -32, 1);
            park("place c;free " + word + " 1 2;", -14, 1);
            book("fence " + word + ";", -8, 1);
            book("p comes " + word + " 1 2;", -10, 1);
            sentence("at " + word, -4, 1);
            sentence("meets " + word, -7, 1);
            String longer = word + "s";
            if (longer.length() <= 7) {
                park("place " + longer + ";", 1, 0);
            }
            // a WORD that is like it but for a letter is a NAME
            park("place z" + word.substring(1) + ";", 1, 0);
            park("z" + word.substring(1) + " c;", -1, 1);
            String shorter = word.substring(0, word.length() - 1);
            park("place " + shorter + "z;", 1, 0);
            if (!(" " + WORDS + " ").contains(" " + shorter + " ")) {
                park("place " + shorter + ";", 1, 0);
            }
        }
        for (String word : "park book line to on lead more days hold come hour held1 line2".split(" ")) {
            boolean name = word.charAt(word.length() - 1) > '9';
            park("place " + word + ";", name ? 1 : -7, name ? 0 : 1);
        }
    }

    // "FAULTS, the first along the text"
    private static void theFirstFault() {
        park("sign 13;place a;place a;", -6, 2);
        park("place a;place a;sign 13;", -15, 3);
        park("place c;person q c 9 8 31;", -22, 2);
        park("place c;person c e 9 8 31;", -16, 3);
        book("sign 13;fence c;", -7, 2);
        book("fence c;sign 13;", -8, 3);
        book("fence a;;sign 13;", -10, 1);
        // what is WRONG is no FAULT: a FAULT behind it is the BOOK's
        book("sign 2;sign 13;", -14, 2);
        sentence("at c and meets c", -4, 3);
        sentence("at a and meets c and;", -16, 3);
        sentence("number<1000 and at c", -8, 1);
    }

    // "of one TOKEN the least"
    private static void theLeastFaultOfOneToken() {
        String forty = "fence a;".repeat(40);
        book(forty + "fence a;", -322, 4);
        book(forty + "c held;", -322, 3);
        book(forty + "a held;", -322, 3);
        book(forty + "held;", -322, 1);
        book(forty + "3;", -322, 1);
        String twenty = "away" + " or away".repeat(19);
        int at = twenty.length() + 4;
        sentence(twenty + " or at c", -1 - at, 4);
        sentence(twenty + " or c", -1 - at, 1);
        sentence(twenty + " or 3", -1 - at, 1);
        sentence("not ".repeat(8) + "at c", -33, 4);
        sentence("not ".repeat(8) + "c", -33, 1);
        String places = "place c;place e;place f;place g;place h;";
        park(places + "place c;", -41, 4);
        park(places + "place sign;", -41, 4);
        park(places + "places c;", -41, 1);
        park("sign 3;sign 13;", -8, 3);
    }

    // "the end: how many bytes there are"
    private static void faultsAtTheEnd() {
        park("place", -6, 1);
        park("place c", -8, 1);
        park("place c \n ", -11, 1);
        park("place c fenced", -15, 1);
        park("sign 3", -7, 1);
        park("place c;person q c 1 2", -23, 1);
        book("fence", -7, 1);
        book("d", -3, 1);
        book("d held  ", -10, 1);
        book("p comes a 1", -13, 1);
        sentence("", -1, 1);
        sentence("\n", -2, 1);
        sentence("not", -4, 1);
        sentence("(away", -6, 1);
        sentence("away and ", -10, 1);
        sentence("number", -7, 1);
        sentence("number <", -9, 1);
        sentence("meets ", -7, 1);
    }

    // "the most bytes told, if there are more and no FAULT is ahead"
    private static void faultsBehindTheMostBytes() {
        park("place c;" + " ".repeat(892), 1, 0);
        park("place c;" + " ".repeat(893), -901, 1);
        park("place c;" + "\n".repeat(932), -901, 1);
        park("place c;" + " ".repeat(892) + "place e;", -901, 1);
        park("place c;" + " ".repeat(892) + ".", -901, 1);
        park("place c;place c;" + " ".repeat(900), -15, 3);
        park("place c" + " ".repeat(900), -901, 1);
        park(" ".repeat(900), 0, 0);
        park(" ".repeat(901), -901, 1);
        book("fence a;" + " ".repeat(392), -1, 0);
        book("fence a;" + " ".repeat(393), -402, 1);
        book("fence a;fence c;" + " ".repeat(393), -16, 3);
        book("fence a" + " ".repeat(500), -402, 1);
        book(" ".repeat(400), -1, 0);
        book(" ".repeat(401), -402, 1);
        sentence("away" + " ".repeat(196), 1, 0);
        sentence("away" + " ".repeat(197), -201, 1);
        sentence("at c" + " ".repeat(197), -4, 3);
        sentence("not" + " ".repeat(300), -201, 1);
        sentence(" ".repeat(200), -201, 1);
        sentence(" ".repeat(199), -200, 1);
    }

    // "TOKENS that begin ahead of it are read whole"
    private static void tokensAheadOfTheMostBytes() {
        park("sign " + " ".repeat(894) + "013;", -900, 2);
        park("sign " + " ".repeat(894) + "0013;", -900, 1);
        park("sign " + " ".repeat(894) + "012;", -901, 1);
        park("sign " + " ".repeat(895) + "013;", -901, 1);
        park("place cc;" + " ".repeat(884) + "place cc;", -900, 3);
        park("place c;" + " ".repeat(885) + "place cc;", -901, 1);
        park("place c;" + " ".repeat(885) + "place ccccccc", -901, 1);
        park("place c;" + " ".repeat(885) + "place cccccccc", -900, 1);
        park("place c;" + " ".repeat(891) + "sing 3;", -900, 1);
        park("place c;" + " ".repeat(891) + "sign 13;", -901, 1);
        book("fence" + " ".repeat(394) + "aa;", -401, 3);
        book("fence" + " ".repeat(394) + "a;", -402, 1);
        book("sign" + " ".repeat(395) + "13;", -401, 2);
        book("sign" + " ".repeat(395) + "12;", -402, 1);
        sentence("number<" + " ".repeat(192) + "1000", -200, 1);
        sentence("number<" + " ".repeat(192) + "100", -201, 1);
        sentence("at" + " ".repeat(197) + "aa", -200, 3);
        sentence("away" + " ".repeat(195) + "or", -201, 1);
        sentence("away" + " ".repeat(195) + "orx", -200, 1);
    }
}
