/** Promises 39 (image), 40 (restore). */
public final class ImageTest {
    private static final Due due = new Due();

    public static void main(String[] args) {
        wrongOnes();
        kept();
        twoPlaces();
        whatStays();
        noSentence();
        due.finish("ImageTest");
    }

    private static void wrongOnes() {
        OffTheLead x = new OffTheLead();
        int[] wrong = {-1, 2, Integer.MIN_VALUE, Integer.MAX_VALUE};
        for (int k : wrong) {
            due.no("image " + k, x.image(k));
            due.no("restore " + k, x.restore(k));
        }
        due.no("nothing in 0", x.restore(0));
        due.yes("image 0", x.image(0));
        due.no("nothing in 1", x.restore(1));
        due.yes("restore 0", x.restore(0));
        due.yes("again", x.restore(0));
    }

    private static void kept() {
        OffTheLead x = Due.parkOf("place a;person o a 6 9 0;person p a 8 11 4;dog d o 0 12;free a 6 9;sign 5;");
        x.days(2, 9);
        x.hold(0, 1);
        x.fence(0);
        Due.sentence(x, "away");
        due.yes("image", x.image(1));
        x.sign(7);
        x.fence(0);
        x.hold(0, 0);
        x.days(9, 9);
        x.come(1, 0, 1, 1);
        x.forbid(0, 0, 23);
        due.yes("restore", x.restore(1));
        int[] now = {2, 0b10, 5, 1, 1, 8, 4, 1};
        for (int what = 0; what < now.length; what++) {
            due.is("now " + what, x.now(what), now[what]);
        }
        int[] person = {0, 8, 11, 4, 3, 1, 1, 0, 4};
        for (int what = 0; what < person.length; what++) {
            due.is("person " + what, x.person(1, what), person[what]);
        }
        due.is("ran", x.dog(0, 4), 1);
        due.is("bit", x.dog(0, 5), 1);
        due.is("fenced", x.place(0, 1), 1);
        due.is("free", x.place(0, 0), 0b1111000000);
        due.is("nothing can be undone", x.undo(), -1);
        due.is("said", x.said(0), 1);
        // another park does not change what is kept
        Due.park(x, "place q;place r;person s r 1 1 1;");
        x.days(5, 5);
        due.is("no sentence", x.said(-1), -1);
        due.yes("restore", x.restore(1));
        due.is("places", x.count(0), 1);
        due.is("persons", x.count(1), 2);
        due.is("said", x.said(0), 1);
        due.is("day", x.now(0), 2);
        due.text("board", x, x.board(0), "a free 6 to 9");
        due.is("nothing can be undone", x.undo(), -1);
        due.is("names", Due.book(x, "p comes a 3 4;d loose;", 1), -1);
    }

    private static void twoPlaces() {
        OffTheLead x = new OffTheLead();
        x.sign(3);
        x.image(0);
        x.sign(4);
        x.image(1);
        x.sign(5);
        x.restore(0);
        due.is("sign 3", x.now(2), 3);
        x.restore(1);
        due.is("sign 4", x.now(2), 4);
        x.sign(9);
        x.image(1);
        x.restore(0);
        due.is("sign 3", x.now(2), 3);
        x.restore(1);
        due.is("sign 9", x.now(2), 9);
        x.sign(1);
        due.is("undone", x.undo(), 0);
        due.is("sign 9", x.now(2), 9);
        x.sign(1);
        due.yes("an image is not undone", x.image(0));
        due.is("undone", x.undo(), 0);
        x.restore(0);
        due.is("sign 1", x.now(2), 1);
    }

    private static void whatStays() {
        OffTheLead x = Due.parkOf("place a;person o a 6 9 0;person p a 8 11 4;dog d o 0 12;free a 6 9;");
        x.image(0);
        x.best(0, 1);
        x.rounds();
        x.board(0);
        Due.book(x, "sign 2;", 0);
        Due.sentence(x, "and");
        Due.feed(x, "abc");
        int from = x.bestAt(0);
        int good = x.partedGood();
        due.yes("restore", x.restore(0));
        due.is("tape", x.count(3), 3);
        due.is("best", x.bestAt(0), from);
        due.is("parted", x.partedGood(), good);
        due.text("board", x, 13, "a free 6 to 9");
        due.is("told", x.told(0), 21);
        due.is("fault", x.fault(), 1);
        x.sign(5);
        due.no("a restore that is not", x.restore(1));
        due.is("can be undone", x.undo(), 0);
    }

    private static void noSentence() {
        OffTheLead x = Due.parkOf("place a;");
        x.image(0);
        Due.sentence(x, "away");
        due.is("a sentence", x.said(-1), 0);
        x.restore(0);
        due.is("none", x.said(-1), -1);
    }
}
