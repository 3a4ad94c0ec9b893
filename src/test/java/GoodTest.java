/** GOOD, and promises 20 (best), 21 (bestAt), 22 (fences), 25 (rounds), 26 (parted), 27 (partedGood). */
public final class GoodTest {
    private static final Due due = new Due();

    public static void main(String[] args) {
        good();
        best();
        bestByThoseThere();
        bestWrong();
        fences();
        rounds();
        partedStays();
        awayOnesPartToo();
        due.finish("GoodTest");
    }

    private static void good() {
        OffTheLead x = Due.parkOf("place a;person o a 6 9 0;person p a 8 11 0;dog d o 0 0;free a 5 8;");
        due.is("of an owner", x.person(0, 8), 3);
        due.is("of another", x.person(1, 8), 3);
        x.hold(0, 1);
        due.is("of an owner whose dog is held", x.person(0, 8), 3);
        due.is("of another, the dog held", x.person(1, 8), 4);
        x.hold(0, 0);
        x.fence(0);
        due.is("of an owner behind a fence", x.person(0, 8), 3);
        due.is("of another behind a fence", x.person(1, 8), 4);
        x.fence(0);
        x.forbid(0, 0, 23);
        due.is("of an owner, nothing free", x.person(0, 8), 0);
        due.is("of another, nothing free", x.person(1, 8), 4);
    }

    private static void bestIs(OffTheLead x, int l, int all, int good, int from, int to) {
        due.is("best of " + l, x.best(l, all), good);
        due.is("from", x.bestAt(0), from);
        due.is("to", x.bestAt(1), to);
    }

    private static void best() {
        OffTheLead x = Due.parkOf("place a;place b;person o a 6 9 0;person p a 8 11 0;dog d o 0 0;free a 20 22;");
        due.is("ahead of any", x.bestAt(0), -1);
        due.is("ahead of any", x.bestAt(1), -1);
        bestIs(x, 0, 1, 6, 0, 7);
        due.is("another what", x.bestAt(2), -1);
        due.is("another what", x.bestAt(-1), -1);
        due.is("it stays", x.place(0, 0), 0b111 << 20);
        due.is("nothing to undo", x.undo(), -1);
        bestIs(x, 1, 1, 4, -1, -1);
        x.hold(0, 1);
        bestIs(x, 0, 1, 8, 0, 9);
        x.hold(0, 0);
        x.fence(0);
        bestIs(x, 0, 1, 8, 0, 9);
        x.come(0, 0, 23, 23);
        bestIs(x, 0, 1, 5, 0, 23);
        // none at all is ahead of others that are as good
        OffTheLead y = Due.parkOf("place a;person o a 6 9 0;person p a 6 9 0;dog d o 0 0;free a 6 9;");
        bestIs(y, 0, 1, 4, -1, -1);
        OffTheLead early = Due.parkOf("place a;person o a 0 0 0;person p a 0 0 0;dog d o 0 0;free a 0 0;");
        bestIs(early, 0, 1, 1, -1, -1);
        // the least hours that begin first
        OffTheLead z = Due.parkOf("place a;person o a 0 0 0;person p a 1 5 0;person q a 6 6 0;dog d o 0 0;dog e q 0 0;");
        bestIs(z, 0, 1, 7, 0, 6);
        OffTheLead w = Due.parkOf("place a;place b;person o a 3 3 0;person p b 1 5 0;person q b 9 9 0;dog d o 0 0;dog e q 0 0;"
                + "free b 9 9;");
        bestIs(w, 0, 1, 7, 0, 3);
    }

    private static void bestByThoseThere() {
        OffTheLead x = Due.parkOf("place a;person o a 6 9 0;person p a 6 9 9;person q a 6 9 9;dog d o 0 0;free a 6 9;");
        bestIs(x, 0, 1, 8, -1, -1);
        bestIs(x, 0, 0, 8, -1, -1);
        x.days(1, 1);
        due.is("p and q are away", x.now(1), 0b110);
        due.is("good of all", x.now(5), 4);
        due.is("good of those there", x.now(6), 4);
        bestIs(x, 0, 0, 4, 0, 9);
        bestIs(x, 0, 1, 8, -1, -1);
        due.is("none such", x.best(1, 1), -1);
        bestIs(x, 0, 0, 4, 0, 9);
        due.is("no such all", x.best(0, 2), -1);
        due.is("from stays", x.bestAt(0), 0);
    }

    private static void bestWrong() {
        OffTheLead x = Due.parkOf("place a;");
        due.is("best -1", x.best(-1, 1), -1);
        due.is("best 1", x.best(1, 1), -1);
        due.is("best all -1", x.best(0, -1), -1);
        due.is("best of nobody", x.best(0, 1), 0);
        due.is("no hours", x.bestAt(0), -1);
    }

    private static void fences() {
        due.is("no places", new OffTheLead().fences(), -1);
        due.is("of like ones the first", Due.parkOf("place a;place b;").fences(), 0);
        OffTheLead x = Due.parkOf("place a;place b;place c;"
                + "person o a 6 9 0;person p a 8 9 0;dog d o 0 0;free a 6 9;"
                + "person r b 6 9 0;person q b 7 9 0;dog e r 0 0;free b 6 9;");
        due.is("the second", x.fences(), 1);
        due.is("no fence comes", x.place(1, 1), 0);
        due.is("nothing to undo", x.undo(), -1);
        x.fence(1);
        due.is("the first then", x.fences(), 0);
        x.fence(0);
        due.is("all like", x.fences(), 0);
        x.fence(1);
        due.is("the second then", x.fences(), 1);
        // each place is fenced by itself, not beside those ahead of it
        OffTheLead y = Due.parkOf("place a;place b;"
                + "person o a 6 9 0;person p a 8 9 0;dog d o 0 0;free a 6 9;"
                + "person r b 6 9 0;person q b 9 9 0;dog e r 0 0;free b 6 9;");
        due.is("the first by itself", y.fences(), 0);
    }

    private static void rounds() {
        OffTheLead x = new OffTheLead();
        due.is("ahead of any", x.parted(0), -1);
        due.is("ahead of any", x.partedGood(), -1);
        due.is("of nobody", x.rounds(), 1);
        due.is("of nobody", x.partedGood(), 0);
        due.is("of nobody", x.parted(0), -1);

        OffTheLead y = Due.parkOf("place a;place b;person o a 6 9 0;person p a 6 9 0;dog d o 0 0;free a 6 9;");
        due.is("p goes", y.rounds(), 2);
        due.is("o stays", y.parted(0), 0);
        due.is("p to b", y.parted(1), 1);
        due.is("good", y.partedGood(), 8);
        due.is("nobody else", y.parted(2), -1);
        due.is("nobody below", y.parted(-1), -1);
        due.is("far", y.parted(Integer.MAX_VALUE), -1);
        due.is("all stays", y.person(1, 0), 0);
        due.is("nothing to undo", y.undo(), -1);

        // p stays in the first round, as o is not there yet, and goes in the second
        OffTheLead z = Due.parkOf("place a;place b;place c;person p b 6 9 0;person o a 6 9 0;dog d o 0 0;free b 6 9;");
        due.is("three rounds", z.rounds(), 3);
        due.is("p to the least", z.parted(0), 0);
        due.is("o to b", z.parted(1), 1);
        due.is("good", z.partedGood(), 8);
        z.hold(0, 1);
        due.is("two rounds, held", z.rounds(), 2);
        due.is("p stays where he is", z.parted(0), 1);
        z.hold(0, 0);
        z.come(1, 1, 6, 9);
        z.fence(1);
        due.is("one round, fenced", z.rounds(), 1);
        due.is("p stays behind a fence", z.parted(0), 1);
    }

    private static void awayOnesPartToo() {
        OffTheLead x = Due.parkOf("place b;place a;person p a 6 9 9;person q b 7 7 9;person o a 6 9 0;person r b 7 7 0;"
                + "dog d o 0 0;dog e r 0 0;free a 6 9;free b 7 7;");
        x.days(1, 1);
        due.is("p and q are away", x.now(1), 0b0011);
        due.is("fences count who is away", x.fences(), 1);
        due.is("rounds", x.rounds(), 2);
        due.is("p parts", x.parted(0), 0);
        due.is("good of all", x.partedGood(), 8);
        x.come(0, 0, 6, 6);
        due.is("fences count who is away", x.fences(), 0);
    }

    private static void partedStays() {
        OffTheLead y = Due.parkOf("place a;place b;person o a 6 9 0;person p a 6 9 0;dog d o 0 0;free a 6 9;");
        y.image(0);
        y.rounds();
        y.come(1, 1, 1, 1);
        due.is("by the latest rounds", y.parted(1), 1);
        due.is("by the latest rounds", y.partedGood(), 8);
        y.restore(0);
        due.is("it stays by restore", y.parted(1), 1);
        due.is("it stays by restore", y.partedGood(), 8);
    }
}
