/** Promises 4 (park), 5 (fault) and the FAULTS of a PARK. */
public final class ParkTest {
    private static final String BASE = "place a;person p a 1 2 3;dog d p 1 1;";

    private static final Due due = new Due();

    public static void main(String[] args) {
        goodOnes();
        tokens();
        numbers();
        names();
        tooMany();
        tooLong();
        staysByFault();
        latestFault();
        aNewParkIsNew();
        due.finish("ParkTest");
    }

    private static void good(String text, int lines) {
        OffTheLead x = new OffTheLead();
        due.is("park " + text, Due.park(x, text), lines);
        due.is("fault of " + text, x.fault(), 0);
        due.is("tape behind " + text, x.count(3), 0);
    }

    private static void bad(String text, int kind, int at) {
        OffTheLead x = new OffTheLead();
        due.is("park " + text, Due.park(x, text), -1 - at);
        due.is("fault of " + text, x.fault(), kind);
        due.is("tape behind " + text, x.count(3), 0);
        due.is("places behind " + text, x.count(0), 0);
    }

    private static void badAtEnd(String text, String last, int kind) {
        bad(text, kind, text.lastIndexOf(last));
    }

    private static void goodOnes() {
        good("", 0);
        good(" \n ", 0);
        good("place a;", 1);
        good("place\na\nfenced ; ", 1);
        good("sign 12;", 1);
        good(BASE + "free a 0 23;free a 3 3;sign 0;", 6);
        good("place abcdefg;person p abcdefg 0 0 0;person q abcdefg 23 23 30;", 3);
        good(BASE + "dog e p 12 12;dog f p 0 0;", 5);
        good("place a;person p a 007 008 000;", 2);
        OffTheLead x = Due.parkOf("place a;free a 1 2;free a 2 4;free a 9 9;");
        due.is("free joined", x.place(0, 0), 0b1000011110);
        due.is("sign without", x.now(2), 2);
        due.is("sign told", Due.parkOf("sign 7;").now(2), 7);
    }

    private static void tokens() {
        bad("place", 1, 5);
        bad("place a", 1, 7);
        bad("place a  ", 1, 9);
        bad("place ;", 1, 6);
        bad(";", 1, 0);
        bad("  ; ", 1, 2);
        bad("lawn a;", 1, 0);
        bad("fenced a;", 1, 0);
        bad("12;", 1, 0);
        bad("Place a;", 1, 0);
        bad("place A;", 1, 6);
        bad("place aB;", 1, 7);
        bad("place abcdefgh;", 1, 6);
        bad("place a1;", 1, 6);
        bad("place 1a;", 1, 6);
        bad("place 1;", 1, 6);
        bad("place a fence;", 1, 8);
        bad("place a b;", 1, 8);
        bad("place a fenced fenced;", 1, 15);
        bad("place a.", 1, 7);
        bad("place a;.", 1, 8);
        bad("place a;\t", 1, 8);
        bad("place a;\u00e9", 1, 8);
        bad("place a;\u0000", 1, 8);
        bad("place a=;", 1, 7);
        bad("place a;(", 1, 8);
        bad("sign 1234;", 1, 5);
        bad("sign a;", 1, 5);
        bad("sign 12a;", 1, 5);
        bad("sign 3 3;", 1, 7);
        bad("sign;", 1, 4);
        badAtEnd(BASE + "person x a 1 2;", ";", 1);
        badAtEnd(BASE + "person x a b 2;", "b 2", 1);
        badAtEnd(BASE + "person 1 a 1 2 3;", "1 a", 1);
        badAtEnd(BASE + "person x 1 1 2 3;", "1 1 2 3", 1);
        badAtEnd(BASE + "dog x p 1;", ";", 1);
        badAtEnd(BASE + "free a 1;", ";", 1);
        badAtEnd(BASE + "free ;", ";", 1);
        for (String word : ("place fenced person dog free sign allow forbid fence held loose comes day or and not"
                + " away owner meets at frights bites good number").split(" ")) {
            bad("place " + word + ";", 1, 6);
            badAtEnd(BASE + "person " + word + " a 1 2 3;", word + " a", 1);
            badAtEnd(BASE + "free " + word + " 1 2;", word + " 1 2", 1);
        }
    }

    private static void numbers() {
        bad("sign 13;", 2, 5);
        badAtEnd(BASE + "free a 24 24;", "24 24", 2);
        badAtEnd(BASE + "free a 5 24;", "24", 2);
        badAtEnd(BASE + "free a 5 4;", "4;", 2);
        badAtEnd(BASE + "person x a 24 24 0;", "24 24 0", 2);
        badAtEnd(BASE + "person x a 9 8 0;", "8 0", 2);
        badAtEnd(BASE + "person x a 9 24 0;", "24 0", 2);
        badAtEnd(BASE + "person x a 9 9 31;", "31", 2);
        badAtEnd(BASE + "dog x p 13 0;", "13", 2);
        badAtEnd(BASE + "dog x p 0 13;", "13", 2);
        badAtEnd(BASE + "dog x p 999 13;", "999", 2);
    }

    private static void names() {
        badAtEnd(BASE + "place a;", "a;", 3);
        badAtEnd(BASE + "place p;", "p;", 3);
        badAtEnd(BASE + "place d;", "d;", 3);
        badAtEnd(BASE + "person a a 1 2 3;", "a a 1", 3);
        badAtEnd(BASE + "person p a 1 2 3;", "p a 1", 3);
        badAtEnd(BASE + "dog d p 1 1;", "d p 1", 3);
        badAtEnd(BASE + "person x b 1 2 3;", "b 1", 3);
        badAtEnd(BASE + "person x x 1 2 3;", "x 1", 3);
        badAtEnd(BASE + "person x p 1 2 3;", "p 1", 3);
        badAtEnd(BASE + "dog x a 1 1;", "a 1 1", 3);
        badAtEnd(BASE + "dog x d 1 1;", "d 1 1", 3);
        badAtEnd(BASE + "free p 1 1;", "p 1 1", 3);
        badAtEnd(BASE + "free x 1 1;", "x 1 1", 3);
        badAtEnd(BASE + "sign 2;sign 2;", "sign", 3);
        badAtEnd(BASE + "sign 2;sign 99;", "sign", 3);
        bad("free a 1 1;place a;", 3, 5);
    }

    private static void tooMany() {
        String places = "place a;place b;place c;place e;place f;";
        good(places, 5);
        bad(places + "place g;", 4, places.length());
        bad(places + "place 99;", 4, places.length());
        String persons = "place a;";
        for (char c = 'p'; c < 'p' + 8; c++) {
            persons += "person " + c + " a 0 0 0;";
        }
        good(persons, 9);
        bad(persons + "\nperson z a 0 0 0;", 4, persons.length() + 1);
        String dogs = "place a;person p a 0 0 0;";
        for (char c = 'd'; c < 'd' + 6; c++) {
            dogs += "dog " + c + " p 0 0;";
        }
        good(dogs, 8);
        bad(dogs + "dog", 4, dogs.length());
        String free = "place a;";
        for (int i = 0; i < 12; i++) {
            free += "free a 1 1;";
        }
        good(free, 13);
        bad(free + "free a 2 2;", 4, free.length());
    }

    private static String blanks(int n) {
        return " ".repeat(n);
    }

    private static void tooLong() {
        good("place a;" + blanks(892), 1);
        bad("place a;" + blanks(893), 1, 900);
        bad(blanks(932) + "place a;", 1, 900);
        bad("place a;" + blanks(884) + "sign 13;", 2, 897);
        bad("place a;" + blanks(884) + "sign 13; ", 2, 897);
        // a TOKEN that begins ahead of the most bytes is read whole
        bad(blanks(894) + "place abc;", 1, 900);
        bad(blanks(890) + "sign 1234; ", 1, 895);
        bad("sign 1;" + blanks(892) + "place a;", 1, 900);
        bad("sign 1;" + blanks(892) + "sign 2;", 3, 899);
        bad(blanks(899) + "places a;", 1, 899);
        bad("place a;" + blanks(885) + "place a;", 3, 899);
        bad("place ab;" + blanks(884) + "place ab;", 3, 899);
        bad("sign " + blanks(893) + "998;", 2, 898);
        bad("sign " + blanks(894) + "998;", 2, 899);
        bad("sign " + blanks(895) + "998;", 1, 900);
        bad("sign" + blanks(896), 1, 900);
        bad("sign" + blanks(890), 1, 894);
    }

    private static void staysByFault() {
        OffTheLead x = Due.parkOf(BASE + "free a 1 2;");
        x.sign(5);
        x.days(2, 1);
        Due.sentence(x, "owner");
        due.is("a bad park", Due.park(x, "place b;place b;"), -15);
        due.is("places stay", x.count(0), 1);
        due.is("sign stays", x.now(2), 5);
        due.is("day stays", x.now(0), 2);
        due.is("sentence stays", x.said(-1), 1);
        due.is("undo stays", x.undo(), 1);
    }

    private static void latestFault() {
        OffTheLead x = Due.parkOf(BASE);
        due.is("bad park", Due.park(x, "sign 13;"), -6);
        due.is("fault 2", x.fault(), 2);
        due.is("other lives", x.book(2), -1000);
        due.is("fault stays by -1000", x.fault(), 2);
        due.is("book", Due.book(x, "fence a;", 0), -1);
        due.is("fault 0 by book", x.fault(), 0);
        due.is("bad book", Due.book(x, "fence b;", 0), -8);
        due.is("fault 3 by book", x.fault(), 3);
        due.is("bad sentence", Due.sentence(x, ""), -1);
        due.is("fault 1 by sentence", x.fault(), 1);
        due.is("tracks", Due.tracks(x, 0, 1), 1);
        due.is("fault stays by tracks", x.fault(), 1);
        x.image(0);
        x.restore(0);
        due.is("fault stays by restore", x.fault(), 1);
        due.is("sentence", Due.sentence(x, "away"), 1);
        due.is("fault 0 by sentence", x.fault(), 0);
    }

    private static void aNewParkIsNew() {
        OffTheLead x = Due.parkOf("place a;person o a 0 23 0;person p a 1 2 9;dog d o 0 12;free a 0 23;sign 4;");
        x.days(3, 5);
        x.hold(0, 1);
        x.fence(0);
        Due.sentence(x, "owner");
        due.is("complaints", x.now(3), 1);
        due.is("park", Due.park(x, "place b;person q b 1 2 9;dog e q 1 1;"), 3);
        int[] now = {0, 0, 2, 0, 0, 0, 0, 0};
        for (int what = 0; what < now.length; what++) {
            due.is("now " + what, x.now(what), now[what]);
        }
        due.is("place", x.place(0, 0), 0);
        due.is("fence", x.place(0, 1), 0);
        due.is("frights", x.person(0, 5), 0);
        due.is("held", x.dog(0, 3), 0);
        due.is("ran", x.dog(0, 4), 0);
        due.is("bit", x.dog(0, 5), 0);
        due.is("no sentence", x.said(-1), -1);
        due.is("nothing to undo", x.undo(), -1);
        nothingOfTheOneAhead();
    }

    private static void nothingOfTheOneAhead() {
        String park = "place a;person p a 0 23 9;person q a 0 23 9;person o a 0 23 9;dog d o 0 12;dog e o 0 12;free a 0 23;";
        OffTheLead x = Due.parkOf(park);
        x.days(2, 3);
        x.hold(1, 1);
        due.is("both are away", x.now(1), 0b011);
        // what is tried leaves no trace in what comes next
        x.odds(0, 3, 3);
        x.rounds();
        x.fences();
        Due.book(x, "d held;day 3;sign 9;", 0);
        due.is("park", Due.park(x, park + "dog f p 1 1;"), 8);
        int[][] persons = {{0, 0, 23, 9, 0, 0, 0, 0b100, 24}, {0, 0, 23, 9, 0, 0, 0, 0, 0}, {0, 0, 23, 9, 0, 0, 0, 0b011, 24}};
        for (int p = 0; p < 3; p++) {
            for (int what = 0; what < 9; what++) {
                due.is("person " + p + " " + what, x.person(p, what), persons[p][what]);
            }
            for (int what = 3; what < 6; what++) {
                due.is("dog " + p + " " + what, x.dog(p, what), 0);
            }
        }
        due.is("sign", x.now(2), 2);
        due.is("complaints", x.now(3), 0);
        due.is("twelve free again", Due.park(x, "place a;" + "free a 1 1;".repeat(12) + "sign 3;"), 14);
        due.is("and again", Due.park(x, "place a;" + "free a 1 1;".repeat(12) + "sign 3;"), 14);
        due.is("nobody", x.count(1), 0);
        due.is("no dogs", x.count(2), 0);
    }
}
