/** The edges that 'Terms' names for a PARK, a BOOK and a SENTENCE: each sentence by itself. */
public final class EdgeTextTest {
    private static final String PARK = "place a;place b fenced;person p a 1 2 3;person q b 4 4 0;dog d p 1 1;";

    private static final Due due = new Due();

    public static void main(String[] args) {
        linesOfAPark();
        hoursOfAPerson();
        fearOfAPerson();
        skillsOfADog();
        hoursThatAreFree();
        theSign();
        namesToldOnce();
        namesToldAhead();
        fivePlaces();
        eightPersons();
        sixDogs();
        twelveFree();
        numberedFromZero();
        linesOfABook();
        fortyLines();
        hoursOfABook();
        numbersOfABook();
        namesOfABook();
        onesOfASentence();
        twentyOnes();
        eightWithin();
        signsOfASentence();
        meetsUnlikeOnes();
        due.finish("EdgeTextTest");
    }

    private static void park(String text, int answer, int kind) {
        OffTheLead x = new OffTheLead();
        due.is("park '" + text + "'", Due.park(x, text), answer);
        due.is("fault of park '" + text + "'", x.fault(), kind);
        due.is("tape behind park '" + text + "'", x.count(3), 0);
    }

    private static void book(String text, int answer, int kind) {
        OffTheLead x = Due.parkOf(PARK);
        due.is("book '" + text + "'", Due.book(x, text, 0), answer);
        due.is("fault of book '" + text + "'", x.fault(), kind);
        due.is("tape behind book '" + text + "'", x.count(3), 0);
    }

    private static void sentence(String text, int answer, int kind) {
        OffTheLead x = Due.parkOf(PARK);
        due.is("sentence '" + text + "'", Due.sentence(x, text), answer);
        due.is("fault of sentence '" + text + "'", x.fault(), kind);
        due.is("tape behind sentence '" + text + "'", x.count(3), 0);
    }

    // "{ LINE ; }"
    private static void linesOfAPark() {
        park("", 0, 0);
        park("\n", 0, 0);
        park("place a;", 1, 0);
        park("place a", -8, 1);
        park("place a;;", -9, 1);
        park(";place a;", -1, 1);
        park("place a;place b", -16, 1);
        park("place a fenced;", 1, 0);
        park("place a fenced fenced;", -16, 1);
        park("fenced;", -1, 1);
        park("person p;", -9, 1);
        park("place a;person p a;", -19, 1);
        park("place a;person p a 1 2 3 4;", -26, 1);
        park("place a;person p a 1 2 3;dog d p;", -33, 1);
        park("place a;person p a 1 2 3;dog d p 1 2 3;", -38, 1);
        park("place a;free a;", -15, 1);
        park("place a;free a 1 2 3;", -20, 1);
        park("sign 2 3;", -8, 1);
        due.is("without 'fenced'", Due.parkOf("place a;").place(0, 1), 0);
        due.is("with 'fenced'", Due.parkOf("place a fenced;").place(0, 1), 1);
    }

    // "HOURS 0 to 23; TO: FROM to 23; he comes in each of these"
    private static void hoursOfAPerson() {
        for (int from = 0; from <= 25; from++) {
            String head = "place a;person p a " + from + " ";
            for (int to = 0; to <= 25; to++) {
                boolean good = from <= to && to <= 23;
                int at = from > 23 ? 19 : head.length();
                park(head + to + " 3;", good ? 2 : -1 - at, good ? 0 : 2);
            }
        }
        park("place a;person p a 999 999 3;", -20, 2);
        park("place a;person p a 0 999 3;", -22, 2);
        OffTheLead x = Due.parkOf("place a;person p a 0 23 3;person q a 5 7 3;");
        for (int hour = 0; hour < 24; hour++) {
            due.is("there at " + hour, x.there(0, hour), hour >= 5 && hour <= 7 ? 3 : 1);
        }
    }

    // "0 to 30 days"
    private static void fearOfAPerson() {
        for (int fear = 0; fear <= 33; fear++) {
            park("place a;person p a 1 2 " + fear + ";", fear <= 30 ? 2 : -24, fear <= 30 ? 0 : 2);
        }
        due.is("fear 0", Due.parkOf("place a;person p a 1 2 0;").person(0, 3), 0);
        due.is("fear 30", Due.parkOf("place a;person p a 1 2 30;").person(0, 3), 30);
    }

    // "whose it is; 0 to 12 each"
    private static void skillsOfADog() {
        String head = "place a;person p a 1 2 3;dog d p ";
        int at = head.length();
        for (int n = 0; n <= 15; n++) {
            park(head + n + " 0;", n <= 12 ? 3 : -1 - at, n <= 12 ? 0 : 2);
            park(head + "0 " + n + ";", n <= 12 ? 3 : -3 - at, n <= 12 ? 0 : 2);
        }
        OffTheLead x = Due.parkOf(head + "12 0;dog e p 0 12;");
        due.is("obeys 12", x.dog(0, 1), 12);
        due.is("bites 0", x.dog(0, 2), 0);
        due.is("obeys 0", x.dog(1, 1), 0);
        due.is("bites 12", x.dog(1, 2), 12);
    }

    // "HOURS as told; they may overlap"
    private static void hoursThatAreFree() {
        for (int from = 0; from <= 25; from++) {
            String head = "place a;free a " + from + " ";
            for (int to = 0; to <= 25; to++) {
                boolean good = from <= to && to <= 23;
                int at = from > 23 ? 15 : head.length();
                park(head + to + ";", good ? 2 : -1 - at, good ? 0 : 2);
                if (good) {
                    int bits = 0;
                    for (int hour = from; hour <= to; hour++) {
                        bits |= 1 << hour;
                    }
                    due.is("free bits", Due.parkOf(head + to + ";").place(0, 0), bits);
                }
            }
        }
        due.is("one within another", Due.parkOf("place a;free a 2 9;free a 4 5;").place(0, 0), 0b1111111100);
        due.is("the same again", Due.parkOf("place a;free a 4 5;free a 4 5;").place(0, 0), 0b110000);
        due.is("beside one another", Due.parkOf("place a;free a 4 5;free a 6 6;").place(0, 0), 0b1110000);
    }

    // "0 to 12 lines; once; 2 without"; "'sign' told again in a PARK (at it)"
    private static void theSign() {
        for (int n = 0; n <= 15; n++) {
            park("sign " + n + ";", n <= 12 ? 1 : -6, n <= 12 ? 0 : 2);
            if (n <= 12) {
                due.is("sign " + n, Due.parkOf("sign " + n + ";").now(2), n);
            }
        }
        due.is("without", Due.parkOf("").now(2), 2);
        due.is("without", Due.parkOf("place a;").now(2), 2);
        park("sign 3;sign 4;", -8, 3);
        park("sign 3;sign 3;", -8, 3);
        park("sign 2;place a; sign 2;", -17, 3);
        OffTheLead x = Due.parkOf("sign 9;");
        due.is("once in each park", Due.park(x, "sign 8;"), 1);
        due.is("2 without, behind one with", Due.park(x, "place a;"), 1);
        due.is("2 without, behind one with", x.now(2), 2);
    }

    // "told once": whatever it is told for
    private static void namesToldOnce() {
        String head = "place a;person p a 1 2 3;dog d p 1 1;";
        int at = head.length();
        for (String name : new String[] {"a", "p", "d"}) {
            park(head + "place " + name + ";", -7 - at, 3);
            park(head + "person " + name + " a 1 2 3;", -8 - at, 3);
            park(head + "dog " + name + " p 1 1;", -5 - at, 3);
        }
        park(head + "place aa;person pp a 1 2 3;dog dd p 1 1;", 6, 0);
        OffTheLead x = Due.parkOf(head);
        due.is("again in another park", Due.park(x, head), 3);
        due.is("for something else in another park", Due.park(x, "place p;person d p 1 2 3;dog a d 1 1;"), 3);
        due.is("told again behind a fault", Due.park(x, head + "place a;"), -7 - at);
        due.is("told again behind a fault", Due.park(x, head), 3);
    }

    // "3 a NAME .. not told, or of another sort"
    private static void namesToldAhead() {
        park("person p a 1 2 3;place a;", -10, 3);
        park("place a;dog d p 1 1;person p a 1 2 3;", -15, 3);
        park("free a 1 2;place a;", -6, 3);
        park("place a;person p p 1 2 3;", -18, 3);
        park("place a;person p a 1 2 3;person q p 1 2 3;", -35, 3);
        park("place a;person p a 1 2 3;dog d a 1 1;", -32, 3);
        park("place a;person p a 1 2 3;dog d d 1 1;", -32, 3);
        park("place a;person p a 1 2 3;dog d p 1 1;dog e d 1 1;", -44, 3);
        park("place a;person p a 1 2 3;free p 1 2;", -31, 3);
        park("place a;person p a 1 2 3;dog d p 1 1;free d 1 2;", -43, 3);
        OffTheLead x = Due.parkOf("place a;");
        due.is("a name of the park ahead", Due.park(x, "free a 1 2;"), -6);
        due.is("a name of the park ahead", x.fault(), 3);
    }

    private static String many(int n, String head, String tail) {
        StringBuilder text = new StringBuilder();
        for (int i = 0; i < n; i++) {
            text.append(head).append((char) ('e' + i)).append(tail);
        }
        return text.toString();
    }

    private static void most(String text, String line, int lines) {
        OffTheLead x = new OffTheLead();
        due.is("as many as may be", Due.park(x, text), lines);
        park(text + line, -1 - text.length(), 4);
        park(text + " \n" + line, -3 - text.length(), 4);
    }

    // "5 PLACES, 8 PERSONS, 6 DOGS, 12 'free' at most"; "4 one more than there may be of a sort (at the LINE's first WORD)"
    private static void fivePlaces() {
        most(many(5, "place ", ";"), "place z;", 5);
        most(many(5, "place ", " fenced;"), "place z fenced;", 5);
        OffTheLead x = Due.parkOf(many(5, "place ", ";free e 1 2;"));
        due.is("five places", x.count(0), 5);
        due.is("the fifth", x.fence(4), 1);
        due.is("a sixth", x.fence(5), -1);
    }

    private static void eightPersons() {
        most("place a;" + many(8, "person ", " a 1 2 3;"), "person z a 1 2 3;", 9);
        OffTheLead x = Due.parkOf("place a;" + many(8, "person ", " a 1 2 3;"));
        due.is("eight persons", x.count(1), 8);
        due.is("all there", x.there(0, 1), 255);
        due.is("the eighth", x.person(7, 2), 2);
        due.noSuch("a ninth", () -> x.person(8, 2));
    }

    private static void sixDogs() {
        most("place a;person p a 1 2 3;" + many(6, "dog ", " p 1 1;"), "dog z p 1 1;", 8);
        OffTheLead x = Due.parkOf("place a;person p a 1 2 3;" + many(6, "dog ", " p 1 1;"));
        due.is("six dogs", x.count(2), 6);
        due.is("all his", x.person(0, 7), 63);
        due.is("the sixth", x.dog(5, 2), 1);
        due.noSuch("a seventh", () -> x.dog(6, 2));
    }

    private static void twelveFree() {
        most("place a;place b;" + "free a 1 2;free b 3 4;".repeat(6), "free a 1 2;", 14);
        most("place a;place b;" + "free a 1 2;free b 3 4;".repeat(6), "free z 1 2;", 14);
        StringBuilder text = new StringBuilder("place a;");
        for (int i = 0; i < 12; i++) {
            text.append("free a ").append(2 * i).append(" ").append(2 * i).append(";");
        }
        due.is("the twelfth counts", Due.parkOf(text.toString()).place(0, 0), 0b010101010101010101010101);
    }

    // "PLACES, PERSONS, DOGS numbered from 0 each"
    private static void numberedFromZero() {
        OffTheLead x = Due.parkOf("place a;person p a 1 1 3;dog d p 1 1;place b;person q b 2 2 4;dog e q 2 2;sign 3;free b 7 7;");
        due.is("place 0", x.place(0, 2), 0b01);
        due.is("place 1", x.place(1, 2), 0b10);
        due.is("free of place 1", x.place(1, 0), 1 << 7);
        due.is("person 0", x.person(0, 3), 3);
        due.is("person 1", x.person(1, 3), 4);
        due.is("dog 0", x.dog(0, 0), 0);
        due.is("dog 1", x.dog(1, 0), 1);
        due.text("board 0", x, x.board(0), "a on the lead");
        due.text("board 1", x, x.board(1), "b free 7");
    }

    // "{ LINE ; }" of a BOOK
    private static void linesOfABook() {
        book("", -1, 0);
        book(" ", -1, 0);
        book("fence a", -9, 1);
        book("fence a;;", -10, 1);
        book(";", -2, 1);
        book("fence;", -7, 1);
        book("fence a 1;", -10, 1);
        book("allow a;", -9, 1);
        book("allow a 1;", -11, 1);
        book("allow a 1 2 3;", -14, 1);
        book("forbid a 1;", -12, 1);
        book("sign;", -6, 1);
        book("sign 3 4;", -9, 1);
        book("d;", -3, 1);
        book("d held held;", -9, 1);
        book("d held 1;", -9, 1);
        book("d comes a 1 2;", -4, 1);
        book("p comes;", -9, 1);
        book("p comes b 1;", -13, 1);
        book("p comes b 1 2 3;", -16, 1);
        book("p held;", -4, 1);
        book("p loose;", -4, 1);
        book("p;", -3, 1);
        book("day;", -5, 1);
        book("day 1 1;", -8, 1);
        book("held;", -2, 1);
        book("comes b 1 2;", -2, 1);
        book("place c;", -2, 1);
        book("free a 1 2;", -2, 1);
        // 'sign' may be told again in a BOOK
        book("sign 3;sign 4;sign 3;", -1, 0);
    }

    // "40 at most"; "4 .. a 41st LINE of a BOOK (at the LINE's first WORD)"
    private static void fortyLines() {
        String forty = "fence a;".repeat(40);
        book(forty, -1, 0);
        book("fence a;".repeat(39), -1, 0);
        for (String line : new String[] {"fence a;", "allow a 1 2;", "forbid a 1 2;", "sign 3;", "d held;", "p comes b 1 2;", "day 1;"}) {
            book(forty + line, -322, 4);
            book(forty + "\n" + line, -323, 4);
            book("fence a;".repeat(39) + line, line.startsWith("forbid") ? 39 : -1, 0);
        }
        OffTheLead x = Due.parkOf(PARK);
        due.is("forty are lived", Due.book(x, "fence a;".repeat(39) + "sign 7;", 1), -1);
        due.is("forty are told", x.told(1), 40);
        due.is("the fortieth", x.now(2), 7);
        due.is("the one ahead of it", x.place(0, 1), 1);
        due.is("41 are not lived", Due.book(x, forty + "sign 8;", 1), -322);
        due.is("41 are not lived", x.now(2), 7);
    }

    // HOURS as told, "TO: FROM to 23"
    private static void hoursOfABook() {
        for (String head : new String[] {"allow a ", "p comes b "}) {
            int at = head.length();
            book(head + "0 0;", -1, 0);
            book(head + "23 23;", -1, 0);
            book(head + "0 23;", -1, 0);
            book(head + "24 24;", -2 - at, 2);
            book(head + "23 24;", -5 - at, 2);
            book(head + "5 4;", -4 - at, 2);
            book(head + "4 5;", -1, 0);
            book(head + "1 0;", -4 - at, 2);
        }
        book("forbid a 24 24;", -11, 2);
        book("forbid a 23 24;", -14, 2);
        book("forbid a 5 4;", -13, 2);
        book("forbid a 0 23;", 0, 0);
        book("allow a 0 23;forbid a 0 0;forbid a 23 23;", -1, 0);
    }

    // "'sign' N", "'day' N (1 to 30: its seed, too)"
    private static void numbersOfABook() {
        for (int n = 0; n <= 33; n++) {
            book("sign " + n + ";", n > 12 ? -7 : n == 2 ? 0 : -1, n > 12 ? 2 : 0);
            book("day " + n + ";", n >= 1 && n <= 30 ? -1 : -6, n >= 1 && n <= 30 ? 0 : 2);
        }
        String loose = "place a;person o a 0 23 0;person p a 0 23 0;dog d o 6 6;free a 3 9;sign 6;";
        for (int n = 1; n <= 30; n++) {
            OffTheLead x = Due.parkOf(loose);
            OffTheLead y = Due.parkOf(loose);
            Due.book(x, "day " + n + ";", 1);
            y.days(n, n);
            due.is("day of 'day' " + n, x.now(0), n);
            due.is("frights of 'day' " + n, x.now(3), y.now(3));
            due.is("bites of 'day' " + n, x.now(4), y.now(4));
        }
    }

    // NAMES of a BOOK are those of the PARK: "not told, or of another sort (at it)"
    private static void namesOfABook() {
        book("allow c 1 2;", -8, 3);
        book("allow p 1 2;", -8, 3);
        book("allow d 1 2;", -8, 3);
        book("forbid c 1 2;", -9, 3);
        book("forbid p 1 2;", -9, 3);
        book("fence c;", -8, 3);
        book("fence p;", -8, 3);
        book("fence d;", -8, 3);
        book("p comes c 1 2;", -10, 3);
        book("p comes q 1 2;", -10, 3);
        book("p comes d 1 2;", -10, 3);
        book("c held;", -2, 3);
        book("a held;", -2, 3);
        book("a comes b 1 2;", -2, 3);
        book("c comes b 1 2;", -2, 3);
        OffTheLead x = Due.parkOf(PARK);
        Due.park(x, "place c;");
        due.is("a name of the park ahead", Due.book(x, "fence a;", 0), -8);
        due.is("a name of the park now", Due.book(x, "fence c;", 0), -1);
    }

    private static void onesOfASentence() {
        sentence("", -1, 1);
        sentence(" ", -2, 1);
        sentence("()", -2, 1);
        sentence("away", 1, 0);
        sentence("(away)", 2, 0);
        sentence("not away", 2, 0);
        sentence("not(not(away))", 5, 0);
        sentence("away or", -8, 1);
        sentence("or away", -1, 1);
        sentence("away and", -9, 1);
        sentence("and away", -1, 1);
        sentence("away not owner", -6, 1);
        sentence("away owner", -6, 1);
        sentence("away (owner)", -6, 1);
        sentence("(away) owner", -8, 1);
        sentence("not or away", -5, 1);
        sentence("not", -4, 1);
        sentence("(away", -6, 1);
        sentence("away)", -5, 1);
        sentence("((away)", -8, 1);
        sentence("(away))", -7, 1);
        sentence("(away or)", -9, 1);
        sentence("away;", -5, 1);
        sentence("p", -1, 1);
        sentence("7", -1, 1);
        sentence("meets", -6, 1);
        sentence("meets a", -7, 3);
        sentence("meets d", -7, 3);
        sentence("meets c", -7, 3);
        sentence("at p", -4, 3);
        sentence("at d", -4, 3);
        sentence("at c", -4, 3);
        sentence("at", -3, 1);
    }

    // "20 ONES"; "4 .. a 21st ONE (at its first TOKEN)"
    private static void twentyOnes() {
        String nineteen = "away" + " or away".repeat(18);
        OffTheLead x = Due.parkOf(PARK);
        due.is("twenty", Due.sentence(x, nineteen + " or number=1"), 20);
        due.is("the twentieth counts", x.said(-1), 1);
        due.is("the twentieth counts", x.said(0), 1);
        due.is("twenty joined by and", Due.sentence(x, "number=1" + " and not away".repeat(9) + " and at b"), 20);
        due.is("the twentieth counts", x.said(0), 1);
        due.is("nobody else", x.said(-1), 1);
        int at = nineteen.length();
        sentence(nineteen + " or away or away", -1 - at - 12, 4);
        sentence(nineteen + " or not away", -1 - at - 8, 4);
        sentence(nineteen + " or (away)", -1 - at - 5, 4);
        sentence(nineteen + " or not", -1 - at - 7, 1);
        sentence(nineteen + " or (", -1 - at - 5, 1);
        sentence(nineteen + " or away and at c", -1 - at - 13, 4);
        sentence("not away" + " or not away".repeat(9), 20, 0);
        sentence("not away" + " or not away".repeat(9) + " or away", -1 - 120, 4);
    }

    // "8 within one another"; "4 .. a ninth within (at its first TOKEN)"
    private static void eightWithin() {
        for (int n = 0; n <= 9; n++) {
            sentence("not ".repeat(n) + "away", n <= 7 ? n + 1 : -33, n <= 7 ? 0 : 4);
            sentence("(".repeat(n) + "away" + ")".repeat(n), n <= 7 ? n + 1 : -9, n <= 7 ? 0 : 4);
        }
        sentence("not(".repeat(3) + "not away" + ")".repeat(3), 8, 0);
        sentence("not(".repeat(4) + "away" + ")".repeat(4), -17, 4);
        sentence("not(".repeat(3) + "not not away" + ")".repeat(3), -21, 4);
        sentence("not(".repeat(3) + "not away or not(away)" + ")".repeat(3), -29, 4);
        // beside one another they are not within one another
        sentence("not not not not not not not away and not not not not not not not away", 16, 0);
        sentence("((((((away or owner)and away)or owner)and away)or owner)and away)", 13, 0);
        OffTheLead x = Due.parkOf(PARK);
        Due.sentence(x, "not ".repeat(7) + "owner");
        due.is("seven times not", x.said(0), 1);
        Due.sentence(x, "not ".repeat(6) + "owner");
        due.is("six times not", x.said(0), 0);
    }

    // "( 'frights' | 'bites' | 'good' | 'number' ) SIGN NUMBER"; "SIGN: < = >"
    private static void signsOfASentence() {
        for (String what : new String[] {"frights", "bites", "good", "number"}) {
            int at = what.length();
            for (String sign : new String[] {"<", "=", ">"}) {
                sentence(what + sign + "0", 1, 0);
                sentence(what + sign + "999", 1, 0);
                sentence(what + sign + "1000", -2 - at, 1);
                sentence(what + sign, -2 - at, 1);
                sentence(what + sign + "=3", -2 - at, 1);
                sentence(what + sign + "p", -2 - at, 1);
                sentence(what + sign + "(3)", -2 - at, 1);
            }
            sentence(what + " 3", -2 - at, 1);
            sentence(what + ";3", -1 - at, 1);
            sentence(what + "(3", -1 - at, 1);
            sentence(what, -1 - at, 1);
        }
        sentence("away=3", -5, 1);
        sentence("3=number", -1, 1);
        OffTheLead x = Due.parkOf(PARK);
        due.is("below 1", Due.sentence(x, "number<1") * 10 + x.said(-1), 11);
        due.is("below 0", Due.sentence(x, "number<0") * 10 + x.said(-1), 10);
        due.is("is 1", Due.sentence(x, "number=1") * 10 + x.said(-1), 11);
        due.is("above 1", Due.sentence(x, "number>1") * 10 + x.said(-1), 10);
        due.is("above 0", Due.sentence(x, "number>0") * 10 + x.said(0), 11);
    }

    // "'meets' PERSON (unlike: they come to one PLACE in one HOUR, away or not)"
    private static void meetsUnlikeOnes() {
        OffTheLead x = Due.parkOf("place a;place b;person o a 3 5 0;person p a 5 6 9;person q a 6 6 0;person r b 3 5 0;"
                + "dog d o 0 0;free a 5 5;");
        Due.sentence(x, "meets o");
        due.is("p meets o, o does not meet himself", x.said(-1), 1);
        due.is("p meets o", x.said(0), 1);
        Due.sentence(x, "meets p");
        due.is("o and q meet p", x.said(-1), 2);
        due.is("not p himself", x.said(1), 2);
        Due.sentence(x, "meets r");
        due.is("nobody meets r", x.said(-1), 0);
        x.days(1, 1);
        due.is("p is away", x.now(1), 0b0010);
        Due.sentence(x, "meets o");
        due.is("p meets o, though away", x.said(0), 1);
        Due.sentence(x, "meets p");
        due.is("o and q meet p, though away", x.said(-1), 2);
    }
}
