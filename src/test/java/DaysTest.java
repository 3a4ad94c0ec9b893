/** Promises 16 (days), 34 (odds), and what DAYS change in 6, 7, 9, 18. */
public final class DaysTest {
    private static final Due due = new Due();

    /** The draws as the document tells them, written down here again. */
    private static final class Draws {
        private int x;

        Draws(int seed) {
            x = seed;
        }

        int next() {
            x = x * 1103515245 + 12345;
            return (x >>> 8) % 12;
        }
    }

    public static void main(String[] args) {
        wrongOnes();
        free();
        obeying();
        biting();
        onTheLead();
        fenced();
        nobody();
        held();
        firstOne();
        away();
        oneDayBehindTheOther();
        allDays();
        odds();
        due.finish("DaysTest");
    }

    private static void wrongOnes() {
        OffTheLead x = new OffTheLead();
        int[] wrong = {0, -1, 31, Integer.MIN_VALUE, Integer.MAX_VALUE};
        for (int n : wrong) {
            due.is("days " + n, x.days(n, 1), -1);
            due.is("odds of " + n, Due.parkOf("place a;person p a 1 1 1;").odds(0, n, 1), -1);
        }
        due.is("odds of no person", x.odds(0, 1, 1), -1);
        due.is("odds of person -1", Due.parkOf("place a;person p a 1 1 1;").odds(-1, 1, 1), -1);
        due.is("one seed", Due.parkOf("place a;person p a 1 1 1;").odds(0, 1, 1), 0);
        due.is("30 days", x.days(30, Integer.MIN_VALUE), 30);
        due.is("day 30", x.now(0), 30);
        due.is("undo", x.undo(), 0);
        due.is("day 0", x.now(0), 0);
    }

    private static void free() {
        // never obeys, always bites, free: a fright in the first hour of both
        OffTheLead x = Due.parkOf("place a;person o a 0 9 7;person p a 3 5 4;dog d o 0 12;free a 0 23;");
        due.is("day", x.days(1, 123), 1);
        int[] now = {1, 0b10, 2, 1, 1, 10, 10, 0};
        for (int what = 0; what < now.length; what++) {
            due.is("now " + what, x.now(what), now[what]);
        }
        due.is("away", x.person(1, 4), 4);
        due.is("frights", x.person(1, 5), 1);
        due.is("bites", x.person(1, 6), 1);
        due.is("the owner is not away", x.person(0, 4), 0);
        due.is("ran", x.dog(0, 4), 1);
        due.is("bit", x.dog(0, 5), 1);
        due.is("not there", x.there(0, 4), 0b01);
        due.is("days", x.days(3, 5), 3);
        due.is("a day yet", x.person(1, 4), 1);
        due.is("no other fright", x.person(1, 5), 1);
        due.is("days", x.days(1, 5), 1);
        due.is("there again", x.there(0, 4), 0b11);
        due.is("days", x.days(1, 5), 1);
        due.is("another fright", x.person(1, 5), 2);
        due.is("away again", x.person(1, 4), 4);
    }

    private static void obeying() {
        for (int seed = -20; seed < 40; seed++) {
            OffTheLead x = Due.parkOf("place a;person o a 7 7 7;person p a 7 7 0;dog d o 5 0;free a 7 7;");
            x.days(1, seed);
            due.is("obeys 5, seed " + seed, x.now(3), new Draws(seed).next() < 5 ? 0 : 1);
            due.is("bites 0, seed " + seed, x.now(4), 0);
        }
        OffTheLead x = Due.parkOf("place a;person o a 0 23 7;person p a 0 23 0;dog d o 12 12;free a 0 23;");
        x.days(30, 3);
        due.is("always obeys", x.now(3), 0);
    }

    private static void biting() {
        for (int seed = 100; seed < 160; seed++) {
            OffTheLead x = Due.parkOf("place a;person o a 7 7 7;person p a 7 7 0;dog d o 5 6;free a 7 7;");
            x.days(1, seed * 1234567);
            Draws draws = new Draws(seed * 1234567);
            boolean runs = draws.next() >= 5;
            boolean bites = runs && draws.next() < 6;
            due.is("runs, seed " + seed, x.person(1, 5), runs ? 1 : 0);
            due.is("bites, seed " + seed, x.person(1, 6), bites ? 1 : 0);
            due.is("ran, seed " + seed, x.dog(0, 4), runs ? 1 : 0);
            due.is("bit, seed " + seed, x.dog(0, 5), bites ? 1 : 0);
            due.is("all bites, seed " + seed, x.now(4), bites ? 1 : 0);
        }
    }

    private static void onTheLead() {
        // the sign is kept the less the more lines it has
        for (int seed = 0; seed < 60; seed++) {
            OffTheLead x = Due.parkOf("place a;person o a 7 7 7;person p a 7 7 0;dog d o 0 0;sign 4;");
            x.days(1, seed);
            due.is("sign 4, seed " + seed, x.now(3), new Draws(seed).next() < 4 ? 1 : 0);
        }
        OffTheLead none = Due.parkOf("place a;person o a 0 23 7;person p a 0 23 0;dog d o 0 0;sign 0;");
        none.days(30, 9);
        due.is("sign 0 is kept", none.now(3), 0);
        OffTheLead all = Due.parkOf("place a;person o a 0 0 7;person p a 0 0 0;dog d o 0 0;sign 12;");
        all.days(30, 9);
        due.is("sign 12 is never kept", all.now(3), 30);
    }

    private static void fenced() {
        // in a fenced place no draw but for the lead: the dog of the other place has the next one
        for (int seed = 0; seed < 40; seed++) {
            OffTheLead x = Due.parkOf("place a fenced;place b;person o a 7 7 7;person p a 7 7 0;"
                    + "person r b 7 7 0;person q b 7 7 0;dog d o 0 0;dog e r 6 0;free b 0 23;sign 6;");
            x.days(1, seed);
            Draws draws = new Draws(seed);
            draws.next();
            due.is("nobody behind the fence, seed " + seed, x.person(1, 5), 0);
            due.is("the other place, seed " + seed, x.person(3, 5), draws.next() >= 6 ? 1 : 0);
        }
        // free and fenced: no draw at all
        for (int seed = 0; seed < 40; seed++) {
            OffTheLead x = Due.parkOf("place a fenced;place b;person o a 7 7 7;person p a 7 7 0;"
                    + "person r b 7 7 0;person q b 7 7 0;dog d o 0 0;dog e r 6 0;free b 0 23;free a 7 7;");
            x.days(1, seed);
            due.is("no draw, seed " + seed, x.person(3, 5), new Draws(seed).next() >= 6 ? 1 : 0);
        }
    }

    private static void nobody() {
        for (int seed = 0; seed < 40; seed++) {
            // hour 6: owners alone, free: no draw; hour 7: p comes
            OffTheLead x = Due.parkOf("place a;person o a 6 7 7;person r a 6 6 1;person p a 7 7 0;"
                    + "dog d o 6 0;dog e r 0 0;free a 0 23;");
            x.days(1, seed);
            due.is("nobody: no draw, seed " + seed, x.now(3), new Draws(seed).next() >= 6 ? 1 : 0);
        }
    }

    private static void held() {
        for (int seed = 0; seed < 40; seed++) {
            OffTheLead x = Due.parkOf("place a;person o a 7 7 7;person p a 7 7 0;dog d o 0 0;dog e o 6 0;sign 6;");
            x.hold(0, 1);
            x.days(1, seed);
            Draws draws = new Draws(seed);
            boolean runs = draws.next() < 6 && draws.next() >= 6;
            due.is("held: no draw, seed " + seed, x.now(3), runs ? 1 : 0);
            due.is("by the other, seed " + seed, x.dog(1, 4), runs ? 1 : 0);
            due.is("not by the held one, seed " + seed, x.dog(0, 4), 0);
        }
    }

    private static void firstOne() {
        // each fright sends one home for the day: the next ones follow, dog by dog, hour by hour
        OffTheLead x = Due.parkOf("place a;place b;person o a 6 7 7;person p a 6 7 1;person q a 6 7 2;person r a 7 7 3;"
                + "person s a 6 7 4;person t b 6 7 5;dog d o 0 0;dog e o 0 12;free a 6 7;");
        x.days(1, 8);
        int[] frights = {0, 1, 1, 1, 1, 0};
        int[] bites = {0, 0, 1, 0, 0, 0};
        int[] away = {0, 1, 2, 3, 4, 0};
        for (int p = 0; p < 6; p++) {
            due.is("frights of " + p, x.person(p, 5), frights[p]);
            due.is("away of " + p, x.person(p, 4), away[p]);
        }
        // p by d, q by e at six; r by d, s by e at seven
        bites[4] = 1;
        for (int p = 0; p < 6; p++) {
            due.is("bites of " + p, x.person(p, 6), bites[p]);
        }
        due.is("complaints", x.now(3), 4);
        due.is("d ran", x.dog(0, 4), 2);
        due.is("e ran", x.dog(1, 4), 2);
        due.is("e bit", x.dog(1, 5), 2);
    }

    private static void away() {
        OffTheLead x = Due.parkOf("place a;person o a 6 7 7;person p a 6 6 30;person q a 6 6 0;dog d o 0 0;free a 6 7;");
        x.days(1, 8);
        due.is("p", x.person(1, 4), 30);
        due.is("q", x.person(2, 5), 0);
        x.days(1, 8);
        due.is("q is first now", x.person(2, 5), 1);
        due.is("without fear", x.person(2, 4), 0);
        x.days(28, 8);
        due.is("q each day", x.person(2, 5), 29);
        due.is("p yet", x.person(1, 4), 1);
        due.is("bits", x.now(1), 0b010);
        x.days(1, 8);
        due.is("nobody", x.now(1), 0);
        due.is("q", x.person(2, 5), 30);
        x.days(1, 8);
        due.is("p again", x.person(1, 5), 2);
        due.is("not q", x.person(2, 5), 30);
    }

    private static void oneDayBehindTheOther() {
        String park = "place a;person o a 7 7 7;person p a 7 7 0;dog d o 6 0;free a 7 7;";
        for (int seed = 0; seed < 10; seed++) {
            OffTheLead x = Due.parkOf(park);
            x.days(20, seed);
            Draws draws = new Draws(seed);
            int frights = 0;
            for (int day = 0; day < 20; day++) {
                if (draws.next() >= 6) {
                    frights++;
                    draws.next();
                }
            }
            due.is("twenty days, seed " + seed, x.now(3), frights);
        }
    }

    private static void allDays() {
        OffTheLead x = Due.parkOf("place a;person o a 7 7 7;person p a 7 7 0;dog d o 0 0;free a 7 7;");
        for (int i = 0; i < 13; i++) {
            due.is("30 days", x.days(30, i), 30);
        }
        due.is("all but 3", x.now(0), 390);
        due.is("seven", x.days(7, 1), 7);
        due.is("odds near the end", x.odds(1, 4, 1), 4);
        due.is("the last three", x.days(30, 1), 3);
        due.is("day 400", x.now(0), 400);
        due.is("frights", x.now(3), 400);
        due.is("none is left", x.days(1, 1), 0);
        due.is("odds at the end", x.odds(1, 4, 1), 0);
        due.is("the three are undone", x.undo(), 7);
        due.is("day 397", x.now(0), 397);
        due.is("frights", x.now(3), 397);
    }

    private static void odds() {
        String park = "place a;person o a 7 7 7;person p a 7 7 0;dog d o 11 0;free a 7 7;";
        for (int seed = -3; seed < 3; seed++) {
            OffTheLead x = Due.parkOf(park);
            int frightened = 0;
            for (int i = 0; i < 30; i++) {
                OffTheLead y = Due.parkOf(park);
                y.days(7, seed + i);
                frightened += y.person(1, 5) > 0 ? 1 : 0;
            }
            due.is("odds, seed " + seed, x.odds(1, 30, seed), frightened);
            due.is("of the owner", x.odds(0, 30, seed), 0);
            due.is("all stays", x.now(0), 0);
            due.is("frights stay", x.now(3), 0);
            due.is("nothing to undo", x.undo(), -1);
        }
        OffTheLead x = Due.parkOf("place a;person o a 7 7 7;person p a 7 7 0;dog d o 0 0;free a 7 7;");
        x.days(2, 1);
        due.is("frights more", x.odds(1, 5, 1), 5);
        due.is("seeds that wrap", x.odds(1, 5, Integer.MAX_VALUE), 5);
        x.hold(0, 1);
        due.is("none more", x.odds(1, 5, 1), 0);
        OffTheLead away = Due.parkOf("place a;person o a 7 7 7;person p a 7 7 7;dog d o 0 0;free a 7 7;");
        away.days(1, 1);
        due.is("away for all of them", away.odds(1, 3, 3), 0);
        away.days(1, 1);
        due.is("there on the last", away.odds(1, 3, 3), 3);
    }
}
