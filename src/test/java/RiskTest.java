/** Promises 23 (risk), 24 (perils). */
public final class RiskTest {
    private static final Due due = new Due();

    public static void main(String[] args) {
        wrongOnes();
        oneDog();
        onTheLead();
        several();
        whoIsReached();
        away();
        mostPerils();
        due.finish("RiskTest");
    }

    private static void riskIs(OffTheLead x, int p, int perils, long above, long below) {
        due.is("perils of " + p, x.perils(p), perils);
        due.is("risk above of " + p, x.risk(p, 0), above);
        due.is("risk below of " + p, x.risk(p, 1), below);
    }

    private static void wrongOnes() {
        OffTheLead x = Due.parkOf("place a;person o a 7 7 0;person p a 7 7 0;dog d o 8 0;free a 7 7;");
        due.is("of an owner", x.perils(0), -1);
        due.is("of nobody", x.perils(2), -1);
        due.is("of nobody", x.perils(-1), -1);
        due.noSuch("of an owner", () -> x.risk(0, 0));
        due.noSuch("of nobody", () -> x.risk(2, 0));
        due.noSuch("of nobody", () -> x.risk(-1, 1));
        due.noSuch("what 2", () -> x.risk(1, 2));
        due.noSuch("what -1", () -> x.risk(1, -1));
    }

    private static void oneDog() {
        OffTheLead x = Due.parkOf("place a;person o a 7 7 0;person p a 7 7 0;dog d o 8 0;free a 7 7;");
        riskIs(x, 1, 1, 1, 3);
        x.fence(0);
        riskIs(x, 1, 0, 0, 1);
        x.fence(0);
        x.hold(0, 1);
        riskIs(x, 1, 0, 0, 1);
        x.hold(0, 0);
        x.come(1, 0, 8, 23);
        riskIs(x, 1, 0, 0, 1);
        // dogs that always obey run up to nobody, though they would be there
        OffTheLead y = Due.parkOf("place a;person o a 7 7 0;person p a 7 7 0;dog d o 12 0;free a 7 7;");
        riskIs(y, 1, 1, 0, 1);
        OffTheLead z = Due.parkOf("place a;person o a 7 7 0;person p a 7 7 0;dog d o 0 0;free a 7 7;");
        riskIs(z, 1, 1, 1, 1);
    }

    private static void onTheLead() {
        OffTheLead x = Due.parkOf("place a;person o a 7 7 0;person p a 7 7 0;dog d o 8 0;sign 3;");
        riskIs(x, 1, 1, 1, 12);
        x.sign(0);
        riskIs(x, 1, 1, 0, 1);
        x.sign(12);
        riskIs(x, 1, 1, 1, 3);
    }

    private static void several() {
        // 1 - (2/3)(2/3)
        OffTheLead x = Due.parkOf("place a;person o a 7 8 0;person p a 7 9 0;dog d o 8 0;free a 7 8;");
        riskIs(x, 1, 2, 5, 9);
        // 1 - (2/3)(11/12)
        x.forbid(0, 8, 8);
        x.sign(3);
        riskIs(x, 1, 2, 7, 18);
        // two dogs in an hour: 1 - (2/3)(1/2)
        OffTheLead y = Due.parkOf("place a;person o a 7 7 0;person p a 7 9 0;dog d o 8 0;dog e o 6 0;free a 7 8;");
        riskIs(y, 1, 2, 2, 3);
    }

    private static void whoIsReached() {
        OffTheLead x = Due.parkOf("place a;place b;person r a 6 9 0;person p a 7 7 5;person q a 7 8 5;person s b 7 8 0;"
                + "dog d r 6 0;free a 0 23;");
        riskIs(x, 1, 1, 1, 2);
        riskIs(x, 2, 1, 1, 2);
        riskIs(x, 3, 0, 0, 1);
        x.come(1, 1, 7, 7);
        riskIs(x, 2, 2, 3, 4);
        OffTheLead y = Due.parkOf("place a;person p a 7 7 5;person q a 7 7 5;person o a 7 7 5;dog d o 6 0;free a 0 23;");
        riskIs(y, 0, 1, 1, 2);
        riskIs(y, 1, 0, 0, 1);
    }

    private static void away() {
        OffTheLead x = Due.parkOf("place a;person r a 7 8 0;person p a 7 7 5;person q a 7 8 5;dog d r 0 0;free a 7 7;sign 0;");
        riskIs(x, 1, 1, 1, 1);
        riskIs(x, 2, 1, 0, 1);
        x.days(1, 1);
        due.is("p is away", x.now(1), 0b010);
        // he comes, though he is away; another one who is away does not
        riskIs(x, 1, 1, 1, 1);
        riskIs(x, 2, 2, 1, 1);
    }

    private static void mostPerils() {
        OffTheLead x = Due.parkOf("place a;person o a 0 7 0;person p a 0 23 0;dog d o 11 0;sign 1;");
        long below = 1;
        long safe = 1;
        for (int i = 0; i < 8; i++) {
            below *= 144;
            safe *= 143;
        }
        riskIs(x, 1, 8, below - safe, below);
        x.come(0, 0, 0, 8);
        due.is("nine", x.perils(1), 9);
        due.noSuch("nine", () -> x.risk(1, 0));
        due.noSuch("nine", () -> x.risk(1, 1));
        OffTheLead y = Due.parkOf("place a;person o a 0 23 0;person p a 0 23 0;dog d o 0 0;dog e o 0 0;dog f o 0 0;"
                + "dog g o 0 0;dog h o 0 0;dog i o 0 0;");
        due.is("all", y.perils(1), 144);
        due.noSuch("all", () -> y.risk(1, 0));
    }
}
