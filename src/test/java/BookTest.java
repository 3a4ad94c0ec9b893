/** Promises 35 (book), 36 (told), and a BOOK undone. */
public final class BookTest {
    private static final String PARK = "place a;place b;person o a 6 9 0;person p a 8 11 4;dog d o 0 12;free a 6 9;";

    private static final Due due = new Due();

    public static void main(String[] args) {
        ahead();
        good();
        wrong();
        days();
        faults();
        tooLong();
        undone();
        toldStays();
        due.finish("BookTest");
    }

    private static void toldIs(OffTheLead x, int why, int lines, int day, int away) {
        due.is("why", x.told(0), why);
        due.is("lines", x.told(1), lines);
        due.is("day", x.told(2), day);
        due.is("away", x.told(3), away);
    }

    private static void ahead() {
        OffTheLead x = Due.parkOf(PARK);
        toldIs(x, -1, -1, -1, -1);
        Due.feed(x, "fence a;");
        due.is("lives 2", x.book(2), -1000);
        due.is("lives -1", x.book(-1), -1000);
        due.is("the tape stays", x.count(3), 8);
        toldIs(x, -1, -1, -1, -1);
        due.is("lives 1", x.book(1), -1);
        due.is("the tape is empty", x.count(3), 0);
        due.is("fenced", x.place(0, 1), 1);
        due.is("told 4", x.told(4), -1);
        due.is("told -1", x.told(-1), -1);
    }

    private static void good() {
        String text = "allow b 3 4;forbid a 6 6;fence b;sign 5;d held;p comes b 1 2;d loose;day 2;sign 2;";
        OffTheLead x = Due.parkOf(PARK);
        due.is("judged", Due.book(x, text, 0), -1);
        toldIs(x, 0, 9, 2, 0);
        due.is("all stays", x.place(1, 0), 0);
        due.is("all stays", x.place(1, 1), 0);
        due.is("all stays", x.now(0), 0);
        due.is("nothing to undo", x.undo(), -1);
        due.is("lived", Due.book(x, text, 1), -1);
        toldIs(x, 0, 9, 2, 0);
        due.is("allowed", x.place(1, 0), 0b11000);
        due.is("forbidden", x.place(0, 0), 0b1110000000);
        due.is("fenced", x.place(1, 1), 1);
        due.is("sign", x.now(2), 2);
        due.is("loose", x.now(7), 0);
        due.is("comes", x.person(1, 0), 1);
        due.is("from", x.person(1, 1), 1);
        due.is("to", x.person(1, 2), 2);
        due.is("day", x.now(0), 2);
        due.is("empty", Due.book(x, "", 0), -1);
        toldIs(x, 0, 0, 2, 0);
        due.is("sign 0", Due.book(x, "sign 0;", 1), -1);
        due.is("sign 0", x.now(2), 0);
    }

    private static void wrongIs(String text, int line, int why) {
        OffTheLead x = Due.parkOf(PARK);
        due.is("judged " + text, Due.book(x, text, 0), line);
        due.is("fault of " + text, x.fault(), 0);
        toldIs(x, why, line, 0, 0);
        OffTheLead y = Due.parkOf(PARK);
        due.is("lived " + text, Due.book(y, text, 1), line);
        toldIs(y, why, line, 0, 0);
    }

    private static void wrong() {
        wrongIs("allow a 7 8;", 0, 1);
        wrongIs("forbid a 10 23;", 0, 11);
        wrongIs("sign 2;", 0, 21);
        wrongIs("d held;d held;", 1, 31);
        wrongIs("d loose;", 0, 32);
        wrongIs("p comes a 8 11;", 0, 41);
        wrongIs("fence a;fence a;fence a;sign 3;sign 3;sign 4;", 4, 21);
        OffTheLead x = Due.parkOf(PARK);
        due.is("lived as far as it goes", Due.book(x, "sign 4;fence a;allow a 7 7;sign 5;fence b;", 1), 2);
        due.is("sign", x.now(2), 4);
        due.is("fence", x.place(0, 1), 1);
        due.is("not behind it", x.place(1, 1), 0);
        due.is("undone at once", x.undo(), 0);
        due.is("sign", x.now(2), 2);
        due.is("fence", x.place(0, 1), 0);
    }

    private static void days() {
        OffTheLead x = Due.parkOf(PARK);
        due.is("judged", Due.book(x, "day 3;", 0), -1);
        toldIs(x, 0, 1, 3, 0b10);
        due.is("nobody is away", x.now(1), 0);
        due.is("lived", Due.book(x, "day 3;", 1), -1);
        OffTheLead y = Due.parkOf(PARK);
        y.days(3, 3);
        same(x, y);
        due.is("lived", Due.book(x, "day 30;day 7;", 1), -1);
        y.days(30, 30);
        y.days(7, 7);
        same(x, y);
        for (int i = 0; i < 11; i++) {
            Due.book(x, "day 30;", 1);
        }
        due.is("day 370", x.now(0), 370);
        due.is("all that are left", Due.book(x, "day 30;", 0), -1);
        toldIs(x, 0, 1, 400, x.told(3));
        due.is("one more", Due.book(x, "day 30;day 1;", 0), 1);
        toldIs(x, 51, 1, 400, x.told(3));
        due.is("too many", Due.book(x, "day 1;day 30;sign 5;", 1), 1);
        due.is("why", x.told(0), 51);
        due.is("day 371", x.now(0), 371);
        due.is("told day", x.told(2), 371);
        due.is("sign stays", x.now(2), 2);
    }

    private static void same(OffTheLead x, OffTheLead y) {
        for (int what = 0; what < 8; what++) {
            due.is("now " + what, x.now(what), y.now(what));
        }
        for (int what = 0; what < 9; what++) {
            due.is("person 1 " + what, x.person(1, what), y.person(1, what));
        }
        due.is("ran", x.dog(0, 4), y.dog(0, 4));
    }

    private static void bad(String text, int kind, int at) {
        OffTheLead x = Due.parkOf(PARK);
        due.is("book " + text, Due.book(x, text, 1), -2 - at);
        due.is("fault of " + text, x.fault(), kind);
        due.is("tape behind " + text, x.count(3), 0);
        toldIs(x, -1, -1, -1, -1);
        due.is("nothing is lived of " + text, x.undo(), -1);
        due.is("sign", x.now(2), 2);
    }

    private static void faults() {
        bad(";", 1, 0);
        bad("sign 5;free a 1 1;", 1, 7);
        bad("place c;", 1, 0);
        bad("held d;", 1, 0);
        bad("7;", 1, 0);
        bad("sign 5", 1, 6);
        bad("sign;", 1, 4);
        bad("sign a;", 1, 5);
        bad("sign 5;sign 13;", 2, 12);
        bad("day 0;", 2, 4);
        bad("day 31;", 2, 4);
        bad("day;", 1, 3);
        bad("allow a 1;", 1, 9);
        bad("allow a 9 8;", 2, 10);
        bad("forbid a 24 24;", 2, 9);
        bad("allow 3 1 1;", 1, 6);
        bad("allow day 1 1;", 1, 6);
        bad("allow c 1 1;", 3, 6);
        bad("allow p 1 1;", 3, 6);
        bad("fence d;", 3, 6);
        bad("fence a b;", 1, 8);
        bad("a held;", 3, 0);
        bad("c held;", 3, 0);
        bad("d comes a 1 1;", 1, 2);
        bad("p held;", 1, 2);
        bad("d;", 1, 1);
        bad("d c;", 1, 2);
        bad("p;", 1, 1);
        bad("p comes p 1 1;", 3, 8);
        bad("p comes a 5 4;", 2, 12);
        bad("p comes a 5;", 1, 11);
        bad("d held loose;", 1, 7);
        bad("d Held;", 1, 2);
        String forty = "fence a;".repeat(40);
        OffTheLead x = Due.parkOf(PARK);
        due.is("forty lines", Due.book(x, forty, 0), -1);
        due.is("forty lines", x.told(1), 40);
        bad(forty + " fence a;", 4, 321);
        bad(forty + "d", 4, 320);
        bad(forty + "p comes", 4, 320);
        bad(forty + "c held", 3, 320);
        bad(forty + "a held", 3, 320);
        bad(forty + "held", 1, 320);
        bad(forty + ";", 1, 320);
    }

    private static void tooLong() {
        OffTheLead x = Due.parkOf(PARK);
        due.is("400 bytes", Due.book(x, "fence a;" + " ".repeat(392), 0), -1);
        bad("fence a;" + " ".repeat(393), 1, 400);
        bad("fence a;" + " ".repeat(391) + "fence a;", 1, 400);
        bad("fence a;" + " ".repeat(391) + "fence" + " ".repeat(200) + "c;", 1, 400);
        bad(" ".repeat(399) + "cc held;", 3, 399);
        bad(" ".repeat(395) + "day 31;", 2, 399);
        bad(" ".repeat(400) + "cc held;", 1, 400);
    }

    private static void undone() {
        OffTheLead x = Due.parkOf(PARK);
        x.sign(7);
        Due.book(x, "sign 8;day 5;d held;", 1);
        Due.book(x, "sign 9;", 0);
        due.is("undo", x.undo(), 1);
        due.is("sign", x.now(2), 7);
        due.is("day", x.now(0), 0);
        due.is("held", x.now(7), 0);
        due.is("frights", x.now(3), 0);
        due.is("undo", x.undo(), 0);
        due.is("sign", x.now(2), 2);
    }

    private static void toldStays() {
        OffTheLead x = Due.parkOf(PARK);
        Due.book(x, "day 2;sign 2;", 0);
        toldIs(x, 21, 1, 2, 0b10);
        Due.book(x, "sign 13;", 0);
        toldIs(x, 21, 1, 2, 0b10);
        x.book(5);
        toldIs(x, 21, 1, 2, 0b10);
        x.image(0);
        x.restore(0);
        Due.park(x, "");
        toldIs(x, 21, 1, 2, 0b10);
    }
}
