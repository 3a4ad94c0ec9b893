/** The edges that section 3 names for GOOD, BEST, FENCE, RISK, PARTING, TRACKS, MEETING and BOARD. */
public final class EdgeGoodTest {
    private static final Due due = new Due();

    public static void main(String[] args) {
        goodOfOwners();
        goodOfOthers();
        goodOfAll();
        bestIsTheMost();
        bestIsNoneAhead();
        bestIsTheLeast();
        bestOfThoseThere();
        fenceOfLikeOnes();
        fenceIfItIsNot();
        riskIsInLeastTerms();
        riskOfEachDogInEachHour();
        riskIfNobodyElseHasOne();
        riskOfOneAway();
        riskOfEight();
        partingWhereHeIs();
        partingPersonByPerson();
        partingRests();
        tracksOfOneToTen();
        meetings();
        boards();
        due.finish("EdgeGoodTest");
    }

    // "GOOD of a PERSON who has a DOG: his HOURS in which his PLACE is free"
    private static void goodOfOwners() {
        OffTheLead x = Due.parkOf("place a;place b;person o a 0 23 0;person p a 5 5 0;person q a 4 4 0;dog d o 0 0;dog e p 0 0;dog f q 0 0;"
                + "free a 5 6;free b 0 23;");
        due.is("two of his hours", x.person(0, 8), 2);
        due.is("his one hour", x.person(1, 8), 1);
        due.is("none of his hours", x.person(2, 8), 0);
        x.fence(0);
        due.is("a fence is nothing to him", x.person(0, 8), 2);
        x.hold(0, 1);
        due.is("held or not", x.person(0, 8), 2);
        x.allow(0, 0, 23);
        due.is("all of the day", x.person(0, 8), 24);
        x.forbid(0, 0, 22);
        due.is("the last hour", x.person(0, 8), 1);
    }

    // "of another one: those in which no DOG that is not HELD would come there .. the PLACE being free and without a fence"
    private static void goodOfOthers() {
        OffTheLead x = Due.parkOf("place a;place b;person p a 0 23 5;person o a 0 5 0;dog d o 12 0;dog e o 12 0;free a 5 6;free b 0 23;");
        due.is("but the hour at which it is free and a dog comes", x.person(0, 8), 23);
        x.hold(0, 1);
        due.is("one dog is enough", x.person(0, 8), 23);
        x.hold(1, 1);
        due.is("both are held", x.person(0, 8), 24);
        x.hold(0, 0);
        due.is("one is not", x.person(0, 8), 23);
        x.fence(0);
        due.is("behind a fence", x.person(0, 8), 24);
        x.fence(0);
        x.forbid(0, 5, 5);
        due.is("not free then", x.person(0, 8), 24);
        x.allow(0, 0, 0);
        due.is("the first hour", x.person(0, 8), 23);
        x.come(1, 0, 23, 23);
        due.is("no dog then", x.person(0, 8), 24);
        x.allow(0, 23, 23);
        due.is("the last hour", x.person(0, 8), 23);
        x.come(1, 1, 23, 23);
        due.is("at another place", x.person(0, 8), 24);
        OffTheLead y = Due.parkOf("place a;person p a 0 23 5;free a 0 23;");
        due.is("no dogs at all", y.person(0, 8), 24);
    }

    // "Of all: the sum (of those alone who are not away: of these, DOGS of all counting)"
    private static void goodOfAll() {
        due.is("of nobody", new OffTheLead().now(5), 0);
        due.is("of nobody", new OffTheLead().now(6), 0);
        OffTheLead x = Due.parkOf("place a;person o a 1 4 0;person p a 1 2 3;person q a 4 5 3;dog d o 0 0;free a 1 2;");
        due.is("of all", x.now(5), 2 + 0 + 2);
        due.is("nobody is away", x.now(6), 4);
        x.come(1, 0, 2, 5);
        due.is("of all", x.now(5), 2 + 3 + 2);
        x.days(1, 1);
        due.is("p is away", x.now(1), 0b010);
        due.is("of all", x.now(5), 7);
        due.is("without p", x.now(6), 4);
        x.come(0, 0, 2, 2);
        due.is("of all", x.now(5), 1 + 3 + 2);
        due.is("without p", x.now(6), 3);
    }

    private static void bestIs(OffTheLead x, int l, int all, int good, int from, int to) {
        due.is("best of " + l, x.best(l, all), good);
        due.is("from", x.bestAt(0), from);
        due.is("to", x.bestAt(1), to);
    }

    // "HOURS from FROM to TO, so that, if it was free just then, GOOD of all .. is the most"
    private static void bestIsTheMost() {
        OffTheLead first = Due.parkOf("place a;person o a 0 0 0;dog d o 0 0;");
        bestIs(first, 0, 1, 1, 0, 0);
        OffTheLead last = Due.parkOf("place a;person o a 23 23 0;dog d o 0 0;");
        bestIs(last, 0, 1, 1, 0, 23);
        // from 4 on others lose, up to 3 they do as well
        OffTheLead within = Due.parkOf("place a;person p a 0 3 0;person q a 0 3 0;person r a 6 9 0;person s a 6 9 0;person o a 0 9 0;dog d o 0 0;");
        bestIs(within, 0, 1, 16 + 2, 4, 5);
        // just then: what is free now does not count
        within.allow(0, 0, 23);
        due.is("free all day", within.now(5), 10);
        bestIs(within, 0, 1, 16 + 2, 4, 5);
        due.is("it is not changed", within.place(0, 0), 0xffffff);
        // other places count as they are
        OffTheLead two = Due.parkOf("place a;place b;person o a 3 3 0;person p b 5 5 0;person q b 5 8 0;dog d o 0 0;dog e p 0 0;free b 5 5;");
        bestIs(two, 0, 1, 1 + 1 + 3, 0, 3);
        bestIs(two, 1, 1, 0 + 4, -1, -1);
        OffTheLead all = Due.parkOf("place a;person o a 0 23 0;dog d o 0 0;");
        bestIs(all, 0, 1, 24, 0, 23);
    }

    // "of like ones none at all ahead of others"
    private static void bestIsNoneAhead() {
        bestIs(Due.parkOf("place a;"), 0, 1, 0, -1, -1);
        bestIs(Due.parkOf("place a;free a 0 23;"), 0, 1, 0, -1, -1);
        bestIs(Due.parkOf("place a;person p a 0 23 0;free a 0 23;"), 0, 1, 24, -1, -1);
        bestIs(Due.parkOf("place a;person o a 2 4 0;person p a 2 4 0;dog d o 0 0;"), 0, 1, 3, -1, -1);
        bestIs(Due.parkOf("place a;person o a 0 0 0;person p a 0 0 0;dog d o 0 0;"), 0, 1, 1, -1, -1);
        bestIs(Due.parkOf("place a;person o a 2 4 0;person p a 2 4 0;person q a 2 4 0;dog d o 0 0;"), 0, 1, 6, -1, -1);
    }

    // "then the least FROM, the least TO"
    private static void bestIsTheLeast() {
        bestIs(Due.parkOf("place a;person o a 5 6 0;dog d o 0 0;"), 0, 1, 2, 0, 6);
        bestIs(Due.parkOf("place a;person o a 5 6 0;person p a 0 0 0;person q a 2 2 0;dog d o 0 0;dog e o 0 0;"), 0, 1, 4, 0, 6);
        // p is troubled at 0 alone: 1 is the least from
        bestIs(Due.parkOf("place a;person o a 0 6 0;person p a 0 0 0;person r a 0 0 0;dog d o 0 0;"), 0, 1, 8, 1, 6);
        // 2 or 8 alone is as good: of the least from the least to
        bestIs(Due.parkOf("place a;person o a 2 8 0;person p a 3 7 0;person q a 3 7 0;dog d o 0 0;"), 0, 1, 11, 0, 2);
        bestIs(Due.parkOf("place a;person o a 2 8 0;person p a 3 7 0;dog d o 0 0;"), 0, 1, 7, 0, 8);
        bestIs(Due.parkOf("place a;person o a 2 8 0;person p a 3 7 0;person q a 4 4 0;dog d o 0 0;"), 0, 1, 7, 0, 2);
    }

    // "(or of those alone who are not away)"
    private static void bestOfThoseThere() {
        OffTheLead x = Due.parkOf("place a;place b;person o a 2 3 0;person p a 2 3 9;person q a 2 3 9;person r b 1 9 0;dog d o 0 0;free a 2 2;sign 0;");
        bestIs(x, 0, 0, 4 + 9, -1, -1);
        x.days(1, 1);
        due.is("p is away", x.now(1), 0b0010);
        bestIs(x, 0, 1, 4 + 9, -1, -1);
        bestIs(x, 0, 0, 2 + 9, -1, -1);
        x.days(1, 1);
        due.is("p and q are away", x.now(1), 0b0110);
        bestIs(x, 0, 1, 4 + 9, -1, -1);
        bestIs(x, 0, 0, 2 + 9, 0, 3);
    }

    // "FENCE: .. the most GOOD of all (of like ones the first)"
    private static void fenceOfLikeOnes() {
        due.is("none", new OffTheLead().fences(), -1);
        due.is("one", Due.parkOf("place a;").fences(), 0);
        due.is("five alike", Due.parkOf("place a;place b;place c;place e;place f;").fences(), 0);
        String troubled = "person o b 1 2 0;person p b 1 2 0;person q c 1 2 0;person r c 1 2 0;dog d o 0 0;dog e q 0 0;free b 1 2;free c 1 2;";
        due.is("the first of two", Due.parkOf("place a;place b;place c;" + troubled).fences(), 1);
        OffTheLead x = Due.parkOf("place a;place b;place c;" + troubled);
        x.come(3, 2, 1, 3);
        due.is("as much good", x.fences(), 1);
        x.come(0, 1, 1, 1);
        due.is("the second brings more", x.fences(), 2);
        OffTheLead last = Due.parkOf("place a;place b;place c;place e;place f;person o f 1 1 0;person p f 1 1 0;dog d o 0 0;free f 1 1;");
        due.is("the last", last.fences(), 4);
    }

    // "the PLACE that, fenced if it is not, brings the most"
    private static void fenceIfItIsNot() {
        // the fence of a stays when b is looked at, and none goes
        String text = "person o a 1 4 0;person p a 1 4 0;person q b 1 2 0;person r b 1 2 0;dog d o 0 0;dog e q 0 0;free a 1 4;free b 1 2;";
        due.is("a is not", Due.parkOf("place a;place b;" + text).fences(), 0);
        due.is("a is", Due.parkOf("place a fenced;place b;" + text).fences(), 1);
        due.is("b is", Due.parkOf("place a;place b fenced;" + text).fences(), 0);
        due.is("both are", Due.parkOf("place a fenced;place b fenced;" + text).fences(), 0);
        OffTheLead x = Due.parkOf("place a fenced;place b;" + text);
        x.fences();
        due.is("a is fenced yet", x.place(0, 1), 1);
        due.is("b is not", x.place(1, 1), 0);
    }

    private static void riskIs(OffTheLead x, int p, int perils, long above, long below) {
        due.is("perils of " + p, x.perils(p), perils);
        due.is("risk above of " + p, x.risk(p, 0), above);
        due.is("risk below of " + p, x.risk(p, 1), below);
    }

    // "All fractions are told by two numbers: 0 above, 1 below, in least terms"
    private static void riskIsInLeastTerms() {
        int[][] due = {{1, 1}, {11, 12}, {5, 6}, {3, 4}, {2, 3}, {7, 12}, {1, 2}, {5, 12}, {1, 3}, {1, 4}, {1, 6}, {1, 12}, {0, 1}};
        for (int obeys = 0; obeys <= 12; obeys++) {
            OffTheLead x = Due.parkOf("place a;person o a 1 1 0;person p a 1 1 0;dog d o " + obeys + " 0;free a 1 1;");
            riskIs(x, 1, 1, due[obeys][0], due[obeys][1]);
        }
        for (int lines = 0; lines <= 12; lines++) {
            OffTheLead x = Due.parkOf("place a;person o a 1 1 0;person p a 1 1 0;dog d o 0 0;sign " + lines + ";");
            riskIs(x, 1, 1, due[12 - lines][0], due[12 - lines][1]);
        }
        riskIs(Due.parkOf("place a;person p a 0 23 0;"), 0, 0, 0, 1);
        riskIs(Due.parkOf("place a;person o a 1 1 0;person p a 1 1 0;dog d o 1 0;sign 1;"), 1, 1, 11, 144);
        riskIs(Due.parkOf("place a;person o a 1 1 0;person p a 1 1 0;dog d o 6 0;sign 6;"), 1, 1, 1, 4);
    }

    // "each DOG in each HOUR by itself: those that run up to him"
    private static void riskOfEachDogInEachHour() {
        String head = "place a;place b;person o a 1 2 0;person p a 1 2 0;";
        riskIs(Due.parkOf(head + "dog d o 6 0;free a 1 2;"), 1, 2, 3, 4);
        riskIs(Due.parkOf(head + "dog d o 6 0;dog e o 6 0;free a 1 2;"), 1, 4, 15, 16);
        riskIs(Due.parkOf(head + "dog d o 6 0;dog e o 0 0;free a 1 2;"), 1, 4, 1, 1);
        riskIs(Due.parkOf(head + "dog d o 6 0;free a 1 1;sign 0;"), 1, 2, 1, 2);
        riskIs(Due.parkOf(head + "dog d o 6 0;free a 1 1;sign 6;"), 1, 2, 5, 8);
        OffTheLead x = Due.parkOf(head + "dog d o 6 0;dog e o 6 0;free a 1 2;");
        x.hold(1, 1);
        riskIs(x, 1, 2, 3, 4);
        x.come(0, 0, 2, 3);
        riskIs(x, 1, 1, 1, 2);
        x.come(0, 1, 2, 3);
        riskIs(x, 1, 0, 0, 1);
        x.come(0, 0, 1, 2);
        x.fence(0);
        riskIs(x, 1, 0, 0, 1);
    }

    // "if .. nobody else has one": who is first is there all day
    private static void riskIfNobodyElseHasOne() {
        OffTheLead x = Due.parkOf("place a;person p a 1 2 0;person q a 2 3 0;person o a 1 3 0;person s a 1 3 0;dog d o 0 0;dog e o 0 0;dog f s 12 0;free a 1 3;");
        riskIs(x, 0, 6, 1, 1);
        riskIs(x, 1, 3, 1, 1);
        x.come(1, 0, 1, 2);
        riskIs(x, 1, 0, 0, 1);
        // an owner ahead of him is nobody to run up to
        OffTheLead y = Due.parkOf("place a;person s a 1 1 0;person o a 1 1 0;person q a 1 1 0;dog d o 6 0;dog f s 12 0;free a 1 3;");
        riskIs(y, 2, 2, 1, 2);
    }

    // "if all come but who is away (he does)"
    private static void riskOfOneAway() {
        OffTheLead x = Due.parkOf("place a;person o a 1 1 0;person p a 1 1 2;person q a 1 1 0;dog d o 0 0;free a 1 1;");
        riskIs(x, 1, 1, 1, 1);
        riskIs(x, 2, 0, 0, 1);
        x.days(1, 1);
        due.is("p is away", x.now(1), 0b010);
        riskIs(x, 1, 1, 1, 1);
        riskIs(x, 2, 1, 1, 1);
        x.days(2, 1);
        due.is("p is back", x.now(1), 0);
        riskIs(x, 2, 0, 0, 1);
    }

    // "NoSuchElementException: .. more than 8 DOGS by HOURS"
    private static void riskOfEight() {
        long[] pow = {1, 1};
        for (int n = 1; n <= 12; n++) {
            OffTheLead x = Due.parkOf("place a;person o a 0 " + (n - 1) + " 0;person p a 0 23 0;dog d o 11 0;sign 1;");
            pow[0] *= 143;
            pow[1] *= 144;
            if (n <= 8) {
                riskIs(x, 1, n, pow[1] - pow[0], pow[1]);
            } else {
                due.is("perils", x.perils(1), n);
                due.noSuch("risk of " + n, () -> x.risk(1, 0));
                due.noSuch("risk of " + n, () -> x.risk(1, 1));
            }
        }
        // eight of four dogs in two hours, and one more
        OffTheLead y = Due.parkOf("place a;person o a 3 4 0;person p a 0 23 0;dog d o 0 0;dog e o 0 0;dog f o 0 0;dog g o 0 0;free a 0 23;");
        riskIs(y, 1, 8, 1, 1);
        y.come(0, 0, 3, 5);
        due.is("twelve", y.perils(1), 12);
        due.noSuch("risk of twelve", () -> y.risk(1, 0));
        y.hold(0, 1);
        due.is("nine", y.perils(1), 9);
        due.noSuch("risk of nine", () -> y.risk(1, 0));
        y.hold(1, 1);
        riskIs(y, 1, 6, 1, 1);
    }

    private static void partedAre(OffTheLead x, int rounds, int good, int... places) {
        due.is("rounds", x.rounds(), rounds);
        due.is("good then", x.partedGood(), good);
        for (int p = 0; p < places.length; p++) {
            due.is("parted " + p, x.parted(p), places[p]);
        }
        due.is("parted nobody", x.parted(places.length), -1);
    }

    // "each comes where his GOOD is the most then (his HOURS as they are; of like ones where he is, then the least PLACE)"
    private static void partingWhereHeIs() {
        partedAre(Due.parkOf("place a;place b;place c;person p c 1 2 0;"), 1, 2, 2);
        partedAre(Due.parkOf("place a;place b;place c;person o c 1 2 0;dog d o 0 0;"), 1, 0, 2);
        partedAre(Due.parkOf("place a;place b;place c;person o c 1 2 0;dog d o 0 0;free a 1 1;free b 1 1;free c 1 1;"), 1, 1, 2);
        partedAre(Due.parkOf("place a;place b;place c;person o c 1 2 0;dog d o 0 0;free a 1 1;free b 2 2;"), 2, 1, 0);
        partedAre(Due.parkOf("place a;place b;place c;person o a 1 2 0;dog d o 0 0;free b 1 1;free c 2 2;"), 2, 1, 1);
        partedAre(Due.parkOf("place a;place b;place c;person o b 1 2 0;dog d o 0 0;free a 1 1;free b 2 2;free c 1 2;"), 2, 2, 2);
        partedAre(Due.parkOf("place a;place b;person o a 1 2 0;dog d o 0 0;free b 3 9;"), 1, 0, 0);
    }

    // "ROUND by ROUND, PERSON by PERSON": who comes behind sees where those ahead went
    private static void partingPersonByPerson() {
        // o goes to b in the first round, p behind him at once to a
        partedAre(Due.parkOf("place a;place b;person o a 1 2 0;person p b 1 2 0;dog d o 0 0;free b 1 2;"), 2, 4, 1, 0);
        // p ahead of o sees it in the second
        partedAre(Due.parkOf("place a;place b;person p b 1 2 0;person o a 1 2 0;dog d o 0 0;free b 1 2;"), 3, 4, 0, 1);
        // a fence, or a dog that is held, lets him stay
        partedAre(Due.parkOf("place a;place b fenced;person p b 1 2 0;person o a 1 2 0;dog d o 0 0;free b 1 2;"), 2, 4, 1, 1);
        OffTheLead held = Due.parkOf("place a;place b;person p b 1 2 0;person o a 1 2 0;dog d o 0 0;free b 1 2;");
        held.hold(0, 1);
        partedAre(held, 2, 4, 1, 1);
        due.is("nobody goes", held.person(1, 0), 0);
    }

    // "REST: a ROUND by which nobody goes elsewhere", "that by which it is seen counted"
    private static void partingRests() {
        partedAre(new OffTheLead(), 1, 0);
        partedAre(Due.parkOf("place a;"), 1, 0);
        partedAre(Due.parkOf("place a;person p a 1 2 0;"), 1, 2, 0);
        OffTheLead x = Due.parkOf("place a;place b;person p a 1 2 9;person o a 1 2 0;dog d o 0 0;free a 1 2;");
        partedAre(x, 2, 4, 1, 0);
        x.come(0, 1, 1, 2);
        partedAre(x, 1, 4, 1, 0);
        x.come(0, 0, 1, 2);
        x.days(1, 1);
        due.is("p is away", x.now(1), 0b01);
        partedAre(x, 2, 4, 1, 0);
    }

    // "pairs of bytes: a PLACE, an HOUR; 1 to 10 of them"; "DOGS that would come to each of these (away or not)"
    private static void tracksOfOneToTen() {
        String park = "place a;place b;person o a 1 3 0;person p b 3 3 0;dog d o 0 0;dog e p 0 0;dog f o 0 0;";
        OffTheLead x = Due.parkOf(park);
        for (int n = 0; n <= 12; n++) {
            int[] pairs = new int[2 * n];
            for (int i = 0; i < n; i++) {
                pairs[2 * i + 1] = 1 + i % 3;
            }
            due.is(n + " pairs", Due.tracks(x, pairs), n >= 1 && n <= 10 ? 0b101 : -1);
            due.is("the tape is empty", x.count(3), 0);
            int[] odd = new int[2 * n + 1];
            for (int i = 0; i < n; i++) {
                odd[2 * i + 1] = 1 + i % 3;
            }
            due.is("a byte more than " + n + " pairs", Due.tracks(x, odd), -1);
            due.is("the tape is empty", x.count(3), 0);
        }
        for (int hour = 0; hour < 256; hour++) {
            due.is("hour " + hour, Due.tracks(Due.parkOf(park), 0, hour), hour > 23 ? -1 : hour >= 1 && hour <= 3 ? 0b101 : 0);
        }
        for (int l = 0; l < 256; l++) {
            due.is("place " + l, Due.tracks(Due.parkOf(park), l, 3), l == 0 ? 0b101 : l == 1 ? 0b010 : -1);
        }
        due.is("each of these", Due.tracks(x, 0, 3, 1, 3), 0);
        due.is("each of these", Due.tracks(x, 0, 3, 0, 4), 0);
        due.is("the last is not as told", Due.tracks(x, 0, 4, 1, 3, 0, 24), -1);
        due.is("the last is not as told", Due.tracks(x, 0, 4, 1, 3, 2, 3), -1);
        due.is("the first is not as told", Due.tracks(x, 2, 3, 0, 3), -1);
    }

    // "PERSONS who come there, with DOGS for it, others against it; only who is not away is asked"
    private static void meetings() {
        OffTheLead x = Due.parkOf("place a;place b;person o a 1 3 0;person p a 3 3 2;person q b 3 3 0;person r a 9 9 0;dog d o 0 0;dog e o 0 0;free a 0 23;");
        due.is("for a", x.votes(0), 1);
        due.is("against a", x.against(0), 2);
        due.is("missed at a", x.missed(0), 0);
        due.is("for b", x.votes(1), 0);
        due.is("against b", x.against(1), 1);
        x.hold(0, 1);
        due.is("held or not", x.votes(0), 1);
        x.hold(0, 0);
        x.days(1, 1);
        due.is("p is away", x.now(1), 0b0010);
        due.is("for a", x.votes(0), 1);
        due.is("against a", x.against(0), 1);
        due.is("missed at a", x.missed(0), 1);
        due.is("missed at b", x.missed(1), 0);
        x.days(2, 1);
        due.is("against a", x.against(0), 2);
        due.is("missed at a", x.missed(0), 0);
    }

    private static void boardIs(String text, String board) {
        OffTheLead x = Due.parkOf(text);
        due.text("board of " + text, x, x.board(0), board);
    }

    // "(one HOUR: that alone), behind it ' and more', if there are others; ' on the lead', if none is"
    private static void boards() {
        boardIs("place a;", "a on the lead");
        boardIs("place a fenced;", "a on the lead");
        boardIs("place a;place b;free b 1 2;", "a on the lead");
        for (int hour = 0; hour < 24; hour++) {
            boardIs("place a;free a " + hour + " " + hour + ";", "a free " + hour);
            if (hour < 23) {
                boardIs("place a;free a " + hour + " 23;", "a free " + hour + " to 23");
            }
            if (hour > 0) {
                boardIs("place a;free a 0 " + hour + ";", "a free 0 to " + hour);
            }
        }
        boardIs("place a;free a 3 4;free a 5 6;", "a free 3 to 6");
        boardIs("place a;free a 5 6;free a 3 4;", "a free 3 to 6");
        boardIs("place a;free a 5 6;free a 3 3;", "a free 3 and more");
        boardIs("place a;free a 22 23;free a 0 1;", "a free 0 to 1 and more");
        boardIs("place a;free a 23 23;free a 0 0;", "a free 0 and more");
        boardIs("place a;free a 0 10;free a 12 23;", "a free 0 to 10 and more");
        boardIs("place abcdefg;free abcdefg 10 12;free abcdefg 20 20;", "abcdefg free 10 to 12 and more");
        OffTheLead x = Due.parkOf("place zyxwvut;free zyxwvut 6 9;");
        x.forbid(0, 0, 23);
        due.text("forbidden", x, x.board(0), "zyxwvut on the lead");
        x.allow(0, 8, 8);
        due.text("allowed", x, x.board(0), "zyxwvut free 8");
    }
}
