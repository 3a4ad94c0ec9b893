/** Promises 6 (person), 7 (dog), 8 (place), 9 (now), 10 to 15 (acts), 17 (undo). */
public final class ActsTest {
    private static final String PARK = "place lawn;place pond fenced;"
            + "person ada lawn 6 9 5;person ben lawn 8 11 3;person cleo pond 7 8 2;person dora lawn 9 10 0;"
            + "dog rex ada 1 12;dog flop cleo 12 0;dog bo ada 3 4;free lawn 6 9;free pond 0 7;sign 3;";

    private static final Due due = new Due();

    public static void main(String[] args) {
        told();
        wrongOnes();
        allowing();
        forbidding();
        fencing();
        signing();
        holding();
        coming();
        undoing();
        undoingTheLatestEight();
        due.finish("ActsTest");
    }

    private static void told() {
        OffTheLead x = Due.parkOf(PARK);
        int[][] persons = {
            {0, 6, 9, 5, 0, 0, 0, 0b101, 4},
            {0, 8, 11, 3, 0, 0, 0, 0, 2},
            {1, 7, 8, 2, 0, 0, 0, 0b010, 1},
            {0, 9, 10, 0, 0, 0, 0, 0, 1}};
        for (int p = 0; p < persons.length; p++) {
            for (int what = 0; what < 9; what++) {
                due.is("person " + p + " " + what, x.person(p, what), persons[p][what]);
            }
        }
        int[][] dogs = {{0, 1, 12, 0, 0, 0}, {2, 12, 0, 0, 0, 0}, {0, 3, 4, 0, 0, 0}};
        for (int d = 0; d < dogs.length; d++) {
            for (int what = 0; what < 6; what++) {
                due.is("dog " + d + " " + what, x.dog(d, what), dogs[d][what]);
            }
        }
        int[][] places = {{0b1111000000, 0, 0b1011}, {0b11111111, 1, 0b0100}};
        for (int l = 0; l < places.length; l++) {
            for (int what = 0; what < 3; what++) {
                due.is("place " + l + " " + what, x.place(l, what), places[l][what]);
            }
        }
        int[] now = {0, 0, 3, 0, 0, 8, 8, 0};
        for (int what = 0; what < now.length; what++) {
            due.is("now " + what, x.now(what), now[what]);
        }
    }

    private static void wrongOnes() {
        OffTheLead x = Due.parkOf(PARK);
        int[] far = {-1, Integer.MIN_VALUE, Integer.MAX_VALUE, 9, 32};
        for (int wrong : far) {
            due.noSuch("person " + wrong, () -> x.person(wrong, 0));
            due.noSuch("person what " + wrong, () -> x.person(0, wrong));
            due.noSuch("dog " + wrong, () -> x.dog(wrong, 0));
            due.noSuch("dog what " + wrong, () -> x.dog(0, wrong));
            due.is("place " + wrong, x.place(wrong, 0), -1);
            due.is("place what " + wrong, x.place(0, wrong), -1);
            due.is("now " + wrong, x.now(wrong), -1);
            due.is("fence " + wrong, x.fence(wrong), -1);
            due.is("hold " + wrong, x.hold(wrong, 1), -1);
            due.is("hold as " + wrong, x.hold(0, wrong), -1);
            due.is("come " + wrong, x.come(wrong, 0, 1, 1), -1);
            due.is("come to " + wrong, x.come(0, wrong, 1, 1), -1);
            due.is("allow " + wrong, x.allow(wrong, 1, 1), -1);
            due.is("forbid " + wrong, x.forbid(wrong, 6, 6), -1);
        }
        due.noSuch("person 4", () -> x.person(4, 0));
        due.noSuch("dog 3", () -> x.dog(3, 0));
        due.noSuch("dog what 6", () -> x.dog(0, 6));
        due.is("place 2", x.place(2, 0), -1);
        due.is("place what 3", x.place(0, 3), -1);
        due.is("now 8", x.now(8), -1);
        int[][] hours = {{-1, 3}, {3, 2}, {5, 24}, {24, 24}, {-1, -1}, {0, Integer.MAX_VALUE}, {Integer.MIN_VALUE, 3}};
        for (int[] h : hours) {
            due.is("allow hours", x.allow(0, h[0], h[1]), -1);
            due.is("forbid hours", x.forbid(0, h[0], h[1]), -1);
            due.is("come hours", x.come(0, 0, h[0], h[1]), -1);
        }
        due.is("sign -1", x.sign(-1), -1);
        due.is("sign 13", x.sign(13), -1);
        due.is("nothing was done", x.undo(), -1);
    }

    private static void allowing() {
        OffTheLead x = Due.parkOf(PARK);
        due.is("allow all free", x.allow(0, 7, 9), 1);
        due.is("allow some free", x.allow(0, 9, 10), 0);
        due.is("free then", x.place(0, 0), 0b11111000000);
        due.is("allow all hours", x.allow(1, 0, 23), 0);
        due.is("free all day", x.place(1, 0), 0xffffff);
        due.is("again", x.allow(1, 0, 23), 1);
        due.is("undo", x.undo(), 1);
        due.is("free less", x.place(1, 0), 0xff);
        due.is("undo", x.undo(), 0);
        due.is("free as ahead", x.place(0, 0), 0b1111000000);
    }

    private static void forbidding() {
        OffTheLead x = Due.parkOf(PARK);
        due.is("forbid none free", x.forbid(0, 0, 5), 1);
        due.is("forbid some free", x.forbid(0, 0, 7), 0);
        due.is("free then", x.place(0, 0), 0b1100000000);
        due.is("forbid all", x.forbid(0, 0, 23), 0);
        due.is("none", x.place(0, 0), 0);
        due.is("forbid again", x.forbid(0, 23, 23), 1);
        due.is("allow again", x.allow(0, 23, 23), 0);
        due.is("free late", x.place(0, 0), 1 << 23);
    }

    private static void fencing() {
        OffTheLead x = Due.parkOf(PARK);
        due.is("good", x.person(1, 8), 2);
        due.is("fence", x.fence(0), 1);
        due.is("fenced", x.place(0, 1), 1);
        due.is("good behind a fence", x.person(1, 8), 4);
        due.is("fence goes", x.fence(1), 0);
        due.is("not fenced", x.place(1, 1), 0);
        due.is("undo", x.undo(), 1);
        due.is("fenced again", x.place(1, 1), 1);
        due.is("fence goes", x.fence(0), 0);
    }

    private static void signing() {
        OffTheLead x = Due.parkOf(PARK);
        due.is("as it was", x.sign(3), 1);
        due.is("sign 12", x.sign(12), 0);
        due.is("twelve", x.now(2), 12);
        due.is("sign 0", x.sign(0), 0);
        due.is("none", x.now(2), 0);
        due.is("again", x.sign(0), 1);
        due.is("undo", x.undo(), 1);
        due.is("twelve", x.now(2), 12);
    }

    private static void holding() {
        OffTheLead x = Due.parkOf(PARK);
        due.is("loose already", x.hold(2, 0), 2);
        due.is("hold", x.hold(2, 1), 0);
        due.is("hold again", x.hold(2, 1), 1);
        due.is("held", x.dog(2, 3), 1);
        due.is("bits", x.now(7), 0b100);
        due.is("hold rex", x.hold(0, 1), 0);
        due.is("bits", x.now(7), 0b101);
        due.is("no dog loose there", x.person(1, 8), 4);
        due.is("its person is as well", x.person(0, 8), 4);
        due.is("let loose", x.hold(2, 0), 0);
        due.is("bits", x.now(7), 0b001);
        due.is("loose there", x.person(1, 8), 2);
    }

    private static void coming() {
        OffTheLead x = Due.parkOf(PARK);
        due.is("as it was", x.come(0, 0, 6, 9), 1);
        due.is("another place", x.come(0, 1, 6, 9), 0);
        due.is("there", x.place(1, 2), 0b0101);
        due.is("not there", x.place(0, 2), 0b1010);
        due.is("good", x.person(0, 8), 2);
        due.is("another from", x.come(0, 1, 5, 9), 0);
        due.is("another to", x.come(0, 1, 5, 10), 0);
        due.is("from", x.person(0, 1), 5);
        due.is("to", x.person(0, 2), 10);
        due.is("again", x.come(0, 1, 5, 10), 1);
        due.is("fear stays", x.person(0, 3), 5);
        due.is("undo", x.undo(), 2);
        due.is("to", x.person(0, 2), 9);
    }

    private static void undoing() {
        OffTheLead x = Due.parkOf(PARK);
        x.allow(0, 0, 0);
        x.forbid(0, 0, 1);
        x.sign(5);
        x.fence(0);
        x.hold(1, 1);
        x.come(3, 1, 0, 23);
        x.days(4, 11);
        // what is not done can't be undone
        x.sign(5);
        x.hold(1, 1);
        x.allow(9, 1, 1);
        x.days(0, 1);
        x.best(0, 1);
        x.rounds();
        x.odds(1, 3, 3);
        due.is("undo days", x.undo(), 6);
        due.is("day", x.now(0), 0);
        due.is("come still", x.person(3, 0), 1);
        due.is("undo come", x.undo(), 5);
        due.is("come", x.person(3, 0), 0);
        due.is("held still", x.dog(1, 3), 1);
        due.is("undo hold", x.undo(), 4);
        due.is("held", x.dog(1, 3), 0);
        due.is("undo fence", x.undo(), 3);
        due.is("fence", x.place(0, 1), 0);
        due.is("sign still", x.now(2), 5);
        due.is("undo sign", x.undo(), 2);
        due.is("sign", x.now(2), 3);
        due.is("undo forbid", x.undo(), 1);
        due.is("allowed still", x.place(0, 0), 0b1111000001);
        due.is("undo allow", x.undo(), 0);
        due.is("free", x.place(0, 0), 0b1111000000);
        due.is("no more", x.undo(), -1);
    }

    private static void undoingTheLatestEight() {
        OffTheLead x = Due.parkOf(PARK);
        for (int n = 4; n <= 12; n++) {
            due.is("sign", x.sign(n), 0);
        }
        due.is("not done", x.sign(12), 1);
        for (int n = 11; n >= 4; n--) {
            due.is("undo to " + n, x.undo(), n - 4);
            due.is("sign " + n, x.now(2), n);
        }
        due.is("a ninth", x.undo(), -1);
        due.is("sign stays", x.now(2), 4);
        due.is("act", x.sign(9), 0);
        due.is("undo", x.undo(), 0);
        due.is("sign again", x.now(2), 4);
        // a sentence stays when an act ahead of it is undone
        x.sign(8);
        Due.sentence(x, "owner");
        due.is("undo", x.undo(), 0);
        due.is("sentence stays", x.said(-1), 2);
    }
}
