/** The edges that the promises name, one after the other; a promise's number stands ahead of its words. */
public final class EdgeCallTest {
    private static final String PARK = "place a;place b fenced;person o a 1 3 0;person p a 2 4 5;person q b 0 23 0;"
            + "dog d o 0 12;dog e q 12 0;free a 1 2;free b 5 5;sign 3;";
    private static final int[] FAR = {Integer.MIN_VALUE, Integer.MIN_VALUE + 1, -24, -2, -1, 24, 31, 32, 33, 64, 255, 256, 1 << 30,
        Integer.MAX_VALUE - 1, Integer.MAX_VALUE};
    private static final int[][] NO_HOURS = {{-1, 0}, {-1, -1}, {0, -1}, {1, 0}, {23, 22}, {0, 24}, {24, 24}, {24, 0}, {24, 25}, {3, 2},
        {Integer.MIN_VALUE, 3}, {3, Integer.MAX_VALUE}, {Integer.MIN_VALUE, Integer.MAX_VALUE}, {Integer.MAX_VALUE, Integer.MIN_VALUE},
        {3, Integer.MIN_VALUE}};

    private static final Due due = new Due();

    public static void main(String[] args) {
        aNewObject();
        feedsTwentyBytes();
        feedsNoMoreThan940();
        ends();
        parksFault();
        newParks();
        smallerParks();
        faults();
        personsDogsPlaces();
        now();
        acts();
        days();
        undoesWhatWasDone();
        undoesNothingElse();
        undoesEight();
        thereAndMeets();
        best();
        risksAndPerils();
        rounds();
        boards();
        oddsOfSeeds();
        oddsOfSevenDays();
        oddsOfAFrightMore();
        booksOfOtherLives();
        booksJudged();
        booksLived();
        booksAtFault();
        booksWrong();
        told();
        sentences();
        said();
        images();
        restores();
        counts();
        throwing();
        due.finish("EdgeCallTest");
    }

    private static void nowIs(OffTheLead x, int... now) {
        for (int what = 0; what < now.length; what++) {
            due.is("now " + what, x.now(what), now[what]);
        }
    }

    /** All that can be asked of the PARK, as one number. */
    private static long all(OffTheLead x) {
        long sum = 17;
        for (int what = 0; what < 8; what++) {
            sum = sum * 31 + x.now(what);
        }
        for (int what = 0; what < 3; what++) {
            sum = sum * 31 + x.count(what);
        }
        for (int l = 0; l < x.count(0); l++) {
            for (int what = 0; what < 3; what++) {
                sum = sum * 31 + x.place(l, what);
            }
        }
        for (int p = 0; p < x.count(1); p++) {
            for (int what = 0; what < 9; what++) {
                sum = sum * 31 + x.person(p, what);
            }
        }
        for (int d = 0; d < x.count(2); d++) {
            for (int what = 0; what < 6; what++) {
                sum = sum * 31 + x.dog(d, what);
            }
        }
        return sum * 31 + x.said(-1);
    }

    // 1 "An empty PARK; an empty tape."
    private static void aNewObject() {
        OffTheLead x = new OffTheLead();
        for (int what = 0; what < 4; what++) {
            due.is("count " + what, x.count(what), 0);
        }
        nowIs(x, 0, 0, 2, 0, 0, 0, 0, 0);
        due.is("an empty park is no other one", all(x), all(Due.parkOf("")));
        due.is("empty tape as a park", x.park(), 0);
        due.is("empty tape as a book", x.book(0), -1);
        due.is("empty tape as a sentence", x.sentence(), -1);
        due.is("empty tape as tracks", x.tracks(), -1);
        due.is("a day", x.days(1, 1), 1);
        due.is("a sign", x.sign(5), 0);
    }

    // 2 "Twenty bytes come behind the tape, of each number the highest first: how many it has"
    private static void feedsTwentyBytes() {
        OffTheLead x = new OffTheLead();
        due.is("feed", x.feed(0x706c6163, 0x65206162, 0x63646566, 0x673b706c, 0x61636520), 20);
        due.is("feed behind", x.feed(0x68696a6b, 0x6c6d6e3b, 0x20202020, 0x20202020, 0x20202020), 40);
        due.is("park", x.park(), 2);
        due.text("the first name", x, x.board(0), "abcdefg on the lead");
        due.text("the second name", x, x.board(1), "hijklmn on the lead");
        // bytes above 127, and 0
        due.is("feed -1", x.feed(-1, Integer.MIN_VALUE, 0, Integer.MAX_VALUE, 0x80808080), 20);
        due.is("no token", x.park(), -1);
        due.is("feed a track", x.feed(0x00050000, 0, 0, 0, 0), 20);
        x.end(2);
        due.is("a place and an hour", x.tracks(), 0);
    }

    // 2 "NONE, and none come, if it would have more than 940"
    private static void feedsNoMoreThan940() {
        OffTheLead x = new OffTheLead();
        Due.feed(x, "place a;" + " ".repeat(932));
        due.is("940", x.count(3), 940);
        due.is("one more", x.feed(0, 0, 0, 0, 0), -1);
        due.is("940 yet", x.count(3), 940);
        for (int n = 921; n <= 940; n++) {
            due.yes("end", x.end(940));
            due.yes("end", x.end(n));
            due.is("more than 940 from " + n, x.feed(0, 0, 0, 0, 0), -1);
            due.is("none came", x.count(3), n);
            if (n < 940) {
                x.end(920);
                due.is("940 from 920", x.feed(0x20202020, 0x20202020, 0x20202020, 0x20202020, 0x20202020), 940);
            }
        }
        x.end(919);
        due.is("939 from 919", x.feed(0x20202020, 0x20202020, 0x20202020, 0x20202020, 0x20202020), 939);
        x.end(900);
        due.is("what came is as it was", x.park(), 1);
        due.is("the tape takes more again", x.feed(0, 0, 0, 0, 0), 20);
    }

    // 3 "The tape has its first n bytes alone: true; false, if it has not so many, or n is below 0"
    private static void ends() {
        OffTheLead x = new OffTheLead();
        due.yes("0 of 0", x.end(0));
        due.no("1 of 0", x.end(1));
        x.feed(0x73696775, 0x20333b73, 0x69676e20, 0x343b2020, 0x20202020);
        due.no("21 of 20", x.end(21));
        due.no("-1", x.end(-1));
        due.no("least", x.end(Integer.MIN_VALUE));
        due.no("most", x.end(Integer.MAX_VALUE));
        due.is("20 yet", x.count(3), 20);
        due.yes("20 of 20", x.end(20));
        due.yes("19 of 20", x.end(19));
        due.no("20 of 19", x.end(20));
        due.is("19 yet", x.count(3), 19);
        due.yes("0 of 19", x.end(0));
        due.is("none", x.count(3), 0);
        Due.feed(x, "sign 3;sign 4;");
        x.end(7);
        due.is("its first 7 alone", x.park(), 1);
        due.is("its first 7 alone", x.now(2), 3);
    }

    // 4 "-1 less the place of a FAULT: it stays", "The tape (empty then, here and below)"
    private static void parksFault() {
        String[] texts = {".", "place a;place a;", "place c;person r c 9 8 3;", "sign 3;sign 3;", " ".repeat(901), "place c;sign 4;free"};
        int[] at = {0, 14, 21, 7, 900, 19};
        for (int i = 0; i < texts.length; i++) {
            OffTheLead x = Due.parkOf(PARK);
            x.days(2, 1);
            x.hold(1, 1);
            Due.sentence(x, "owner");
            long before = all(x);
            due.is("park " + texts[i], Due.park(x, texts[i]), -1 - at[i]);
            due.is("the tape is empty", x.count(3), 0);
            due.is("all stays", all(x), before);
            due.is("names stay", Due.book(x, "d held;", 0), -1);
            due.is("undo stays", x.undo(), 1);
            due.is("undo stays", x.undo(), 0);
        }
    }

    // "A new PARK: DAY 0, nobody is away, nothing HELD, no SENTENCE"
    private static void newParks() {
        OffTheLead x = Due.parkOf(PARK);
        x.days(9, 1);
        x.fence(0);
        x.allow(0, 0, 23);
        x.come(1, 1, 5, 5);
        x.sign(9);
        x.hold(0, 1);
        x.hold(1, 1);
        Due.sentence(x, "owner");
        // what is looked at, without being, leaves nothing in a new PARK
        x.odds(1, 30, 1);
        x.rounds();
        x.fences();
        Due.book(x, "day 30;fence b;sign 1;d loose;", 0);
        due.is("the same park again", Due.park(x, PARK), 10);
        due.is("as a new one", all(x), all(Due.parkOf(PARK)));
        due.is("day", x.now(0), 0);
        due.is("away", x.now(1), 0);
        due.is("complaints", x.now(3), 0);
        due.is("bites", x.now(4), 0);
        due.is("held", x.now(7), 0);
        due.is("no sentence", x.said(-1), -1);
        due.is("no sentence", x.said(0), -1);
        due.is("nothing to undo", x.undo(), -1);
        due.is("empty", x.park(), 0);
        due.is("as a new object", all(x), all(new OffTheLead()));
        due.is("the sign without", x.now(2), 2);
    }

    private static void smallerParks() {
        OffTheLead x = Due.parkOf("place a;place b;place c;place f;place g fenced;person o a 0 23 9;person p a 0 23 9;person q a 0 23 9;person r a 0 23 9;"
                + "person s a 0 23 9;person t a 0 23 9;person u a 0 23 9;person v a 0 23 9;dog d o 0 12;dog e o 0 12;dog h v 0 12;"
                + "dog i v 0 12;dog j v 0 12;dog k v 0 12;free a 0 23;");
        x.days(1, 1);
        due.is("six are away", x.now(1), 0b01111110);
        for (int d = 0; d < 6; d++) {
            x.hold(d, 1);
        }
        due.is("six are held", x.now(7), 63);
        x.rounds();
        String small = "place a;person o a 1 1 1;person p a 1 2 3;";
        due.is("park", Due.park(x, small), 3);
        OffTheLead y = Due.parkOf(small);
        due.is("as a new one", all(x), all(y));
        due.is("place", x.place(1, 0), -1);
        due.is("there", x.there(0, 1), 0b11);
        due.is("comers", x.place(0, 2), 0b11);
        due.is("votes", x.votes(0), 0);
        due.is("against", x.against(0), 2);
        due.is("missed", x.missed(0), 0);
        due.is("tracks", Due.tracks(x, 0, 1), 0);
        due.is("who was an owner is none", x.person(0, 7), 0);
        due.is("perils of who was an owner", x.perils(0), 0);
        due.is("meets", x.meets(0, 2), -1);
        due.is("rounds", x.rounds(), 1);
        due.is("parted", x.parted(2), -1);
        due.is("good then", x.partedGood(), 3);
        due.is("fences", x.fences(), 0);
        due.is("days", x.days(30, 3), 30);
        nowIs(x, 30, 0, 2, 0, 0, 3, 3, 0);
        // nobody of the one ahead goes elsewhere
        due.is("park", Due.park(x, "place a;place b;person o a 1 1 1;dog d o 0 0;free a 1 1;"), 5);
        due.is("rounds", x.rounds(), 1);
        due.is("held", x.now(7), 0);
    }

    // 5 "The kind of the FAULT of the latest park(), book() or sentence() (a book() of -1000 leaves it); 0 without one and ahead of any"
    private static void faults() {
        OffTheLead x = new OffTheLead();
        due.is("ahead of any", x.fault(), 0);
        x.book(7);
        due.is("ahead of any", x.fault(), 0);
        Due.park(x, ".");
        due.is("1 of a park", x.fault(), 1);
        due.is("asked again", x.fault(), 1);
        Due.park(x, "sign 13;");
        due.is("2 of a park", x.fault(), 2);
        Due.park(x, "sign 1;sign 1;");
        due.is("3 of a park", x.fault(), 3);
        Due.park(x, "place a;place b;place c;place e;place f;place g;");
        due.is("4 of a park", x.fault(), 4);
        due.is("other lives", x.book(-1), -1000);
        due.is("other lives leave it", x.fault(), 4);
        x.tracks();
        x.days(1, 1);
        x.undo();
        x.image(0);
        x.restore(0);
        due.noSuch("person", () -> x.person(0, 0));
        due.is("other calls leave it", x.fault(), 4);
        Due.book(x, "", 0);
        due.is("0 of a book", x.fault(), 0);
        Due.book(x, "sign 13;", 1);
        due.is("2 of a book", x.fault(), 2);
        Due.park(x, "place a;");
        due.is("0 of a park", x.fault(), 0);
        Due.book(x, "fence c;", 0);
        due.is("3 of a book", x.fault(), 3);
        Due.sentence(x, "away");
        due.is("0 of a sentence", x.fault(), 0);
        Due.sentence(x, "not ".repeat(8) + "away");
        due.is("4 of a sentence", x.fault(), 4);
        Due.book(x, "sign 2;", 0);
        due.is("what is wrong is no fault", x.fault(), 0);
    }

    // 6, 7 "NoSuchElementException: no such ones", 8 "NONE: no such ones"
    private static void personsDogsPlaces() {
        OffTheLead x = Due.parkOf(PARK);
        for (int far : FAR) {
            due.noSuch("person " + far, () -> x.person(far, 0));
            due.noSuch("person 0, " + far, () -> x.person(0, far));
            due.noSuch("dog " + far, () -> x.dog(far, 0));
            due.noSuch("dog 0, " + far, () -> x.dog(0, far));
            due.is("place " + far, x.place(far, 0), -1);
            due.is("place 0, " + far, x.place(0, far), -1);
        }
        for (int what = 0; what < 9; what++) {
            int asked = what;
            due.noSuch("person 3", () -> x.person(3, asked));
            due.noSuch("person 7", () -> x.person(7, asked));
            due.noSuch("person 8", () -> x.person(8, asked));
            due.noSuch("dog 2", () -> x.dog(2, asked));
            due.noSuch("dog 5", () -> x.dog(5, asked));
            due.noSuch("dog 6", () -> x.dog(6, asked));
            due.is("place 2", x.place(2, what), -1);
            due.is("place 4", x.place(4, what), -1);
            due.is("place 5", x.place(5, what), -1);
        }
        due.noSuch("person 0, 9", () -> x.person(0, 9));
        due.noSuch("person 2, 9", () -> x.person(2, 9));
        due.noSuch("dog 0, 6", () -> x.dog(0, 6));
        due.is("place 0, 3", x.place(0, 3), -1);
        int[] last = {1, 0, 23, 0, 0, 0, 0, 2, 1};
        for (int what = 0; what < 9; what++) {
            due.is("person 2, " + what, x.person(2, what), last[what]);
        }
        int[] dog = {2, 12, 0, 0, 0, 0};
        for (int what = 0; what < 6; what++) {
            due.is("dog 1, " + what, x.dog(1, what), dog[what]);
        }
        int[] place = {1 << 5, 1, 0b100};
        for (int what = 0; what < 3; what++) {
            due.is("place 1, " + what, x.place(1, what), place[what]);
        }
        x.days(1, 1);
        due.is("away", x.now(1), 0b010);
        due.is("who comes there, away or not", x.place(0, 2), 0b011);
    }

    // 9 "NONE for another what"
    private static void now() {
        OffTheLead x = Due.parkOf(PARK);
        for (int far : FAR) {
            due.is("now " + far, x.now(far), -1);
        }
        due.is("now 8", x.now(8), -1);
        nowIs(x, 0, 0, 3, 0, 0, 2 + 2 + 1, 5, 0);
        x.hold(1, 1);
        due.is("held", x.now(7), 0b10);
    }

    // 10 to 15: "NONE: no such ones", "NONE: not as told"; nothing comes of it, not even something to undo
    private static void acts() {
        OffTheLead x = Due.parkOf(PARK);
        long before = all(x);
        for (int far : FAR) {
            due.is("allow " + far, x.allow(far, 3, 4), -1);
            due.is("forbid " + far, x.forbid(far, 1, 2), -1);
            due.is("fence " + far, x.fence(far), -1);
            due.is("sign " + far, x.sign(far), -1);
            due.is("hold " + far, x.hold(far, 1), -1);
            due.is("let loose " + far, x.hold(far, 0), -1);
            due.is("hold as " + far, x.hold(0, far), -1);
            due.is("come " + far, x.come(far, 1, 5, 5), -1);
            due.is("come to " + far, x.come(0, far, 5, 5), -1);
        }
        for (int[] hours : NO_HOURS) {
            due.is("allow " + hours[0] + " to " + hours[1], x.allow(0, hours[0], hours[1]), -1);
            due.is("forbid " + hours[0] + " to " + hours[1], x.forbid(0, hours[0], hours[1]), -1);
            due.is("come " + hours[0] + " to " + hours[1], x.come(0, 0, hours[0], hours[1]), -1);
        }
        due.is("allow place 2", x.allow(2, 3, 4), -1);
        due.is("forbid place 2", x.forbid(2, 1, 2), -1);
        due.is("fence place 2", x.fence(2), -1);
        due.is("hold dog 2", x.hold(2, 1), -1);
        due.is("hold as 2", x.hold(0, 2), -1);
        due.is("come person 3", x.come(3, 0, 1, 1), -1);
        due.is("come to place 2", x.come(0, 2, 1, 1), -1);
        due.is("sign 13", x.sign(13), -1);
        due.is("all is as it was", all(x), before);
        due.is("nothing to undo", x.undo(), -1);
        due.is("allow place 1", x.allow(1, 3, 4), 0);
        due.is("forbid place 1", x.forbid(1, 3, 4), 0);
        due.is("fence place 1", x.fence(1), 0);
        due.is("hold dog 1", x.hold(1, 1), 0);
        due.is("come person 2 to 1", x.come(2, 1, 1, 1), 0);
        due.is("sign 12", x.sign(12), 0);
    }

    // 16 "n (1 to 30) DAYS with a seed: how many went by; NONE: not as told"
    private static void days() {
        OffTheLead x = Due.parkOf(PARK);
        long before = all(x);
        for (int n : new int[] {0, -1, 31, 32, 400, Integer.MIN_VALUE, Integer.MAX_VALUE}) {
            due.is("days " + n, x.days(n, 1), -1);
        }
        due.is("all is as it was", all(x), before);
        due.is("nothing to undo", x.undo(), -1);
        int day = 0;
        for (int n = 1; n <= 27; n++) {
            due.is("days " + n, x.days(n, n), n);
            day += n;
            due.is("day " + day, x.now(0), day);
        }
        due.is("22 of 30 are left", x.days(30, 1), 22);
        due.is("none is left", x.days(1, 1), 0);
        due.is("none is left", x.now(0), 400);
        due.is("30", Due.parkOf(PARK).days(30, 1), 30);
    }

    private interface Act {
        int on(OffTheLead x);
    }

    private static void undoes(String name, Act act) {
        OffTheLead x = Due.parkOf(PARK);
        x.hold(1, 1);
        long before = all(x);
        due.yes(name, act.on(x) >= -1);
        due.no(name + " does something", all(x) == before);
        due.is("undo " + name, x.undo(), 1);
        due.is("as it was ahead of " + name, all(x), before);
        due.is("undo what was ahead of it", x.undo(), 0);
        due.is("none is", x.undo(), -1);
        due.is("nothing is held", x.now(7), 0);
    }

    // 17 "The latest of allow(), forbid(), sign(), hold(), come() of 0, fence(), days() above 0, a BOOK that was lived is undone"
    private static void undoesWhatWasDone() {
        undoes("allow", x -> x.allow(0, 9, 9));
        undoes("forbid", x -> x.forbid(0, 0, 2));
        undoes("sign", x -> x.sign(12));
        undoes("hold", x -> x.hold(0, 1));
        undoes("let loose", x -> x.hold(1, 0));
        undoes("come", x -> x.come(1, 1, 0, 0));
        undoes("fence", x -> x.fence(0));
        undoes("fence of a fenced one", x -> x.fence(1));
        undoes("a day", x -> x.days(1, 3));
        undoes("days", x -> x.days(30, 3));
        undoes("a book", x -> Due.book(x, "fence a;day 3;d held;sign 9;", 1));
        undoes("a book that is wrong", x -> Due.book(x, "fence a;sign 9;sign 9;d held;", 1));
    }

    // 17: of other answers there is nothing to undo, and what was undone is not done again
    private static void undoesNothingElse() {
        OffTheLead x = Due.parkOf(PARK);
        x.sign(7);
        due.is("allow 1", x.allow(0, 1, 1), 1);
        due.is("forbid 1", x.forbid(0, 9, 9), 1);
        due.is("sign 1", x.sign(7), 1);
        due.is("hold 2", x.hold(0, 0), 2);
        due.is("come 1", x.come(0, 0, 1, 3), 1);
        due.is("fence none", x.fence(2), -1);
        due.is("days none", x.days(31, 1), -1);
        due.is("a book judged", Due.book(x, "fence a;", 0), -1);
        due.is("a book at fault", Due.book(x, "fence a;fence c;", 1), -16);
        due.is("other lives", x.book(3), -1000);
        due.is("best", x.best(0, 1), 5);
        due.is("fences", x.fences(), 0);
        due.is("rounds", x.rounds() > 0 ? 1 : 0, 1);
        due.is("odds", x.odds(1, 2, 1) >= 0 ? 1 : 0, 1);
        due.is("a sentence", Due.sentence(x, "owner"), 1);
        due.yes("an image", x.image(0));
        due.no("no restore", x.restore(1));
        due.is("a park at fault", Due.park(x, "."), -1);
        due.is("undo", x.undo(), 0);
        due.is("sign", x.now(2), 3);
        due.is("none is", x.undo(), -1);
        due.is("the sentence stays", x.said(-1), 2);
        x.sign(7);
        x.restore(0);
        due.is("restored", x.undo(), -1);
        due.is("restored", x.now(2), 7);
        // days() of 0
        for (int i = 0; i < 14; i++) {
            x.days(30, 1);
        }
        due.is("days of 0", x.days(1, 1), 0);
        due.is("undone is the one ahead of it", x.undo(), 7);
        due.is("undone is the one ahead of it", x.now(0), 390);
    }

    // 17 "how many more can be (8 at most are kept); NONE: none is"
    private static void undoesEight() {
        for (int acts = 0; acts <= 12; acts++) {
            OffTheLead x = Due.parkOf("place a;sign 0;");
            for (int n = 1; n <= acts; n++) {
                due.is("sign " + n, x.sign(n), 0);
            }
            int kept = Math.min(acts, 8);
            for (int n = 1; n <= kept; n++) {
                due.is("undo " + n + " of " + acts, x.undo(), kept - n);
                due.is("sign", x.now(2), acts - n);
            }
            due.is("none of " + acts, x.undo(), -1);
            due.is("sign", x.now(2), acts - kept);
            due.is("an act behind", x.fence(0), 1);
            due.is("is undone", x.undo(), 0);
            due.is("none more", x.undo(), -1);
        }
    }

    // 18 "NONE: no such ones", 19 "NONE: no such ones, alike"
    private static void thereAndMeets() {
        OffTheLead x = Due.parkOf(PARK);
        for (int far : FAR) {
            due.is("there " + far, x.there(far, 3), -1);
            due.is("there at " + far, x.there(0, far), -1);
            due.is("meets " + far, x.meets(far, 0), -1);
            due.is("meets 0 and " + far, x.meets(0, far), -1);
            due.is("meets " + far + " alike", x.meets(far, far), -1);
        }
        due.is("there 2", x.there(2, 3), -1);
        due.is("at 0", x.there(1, 0), 0b100);
        due.is("at 23", x.there(1, 23), 0b100);
        due.is("at 24", x.there(1, 24), -1);
        due.is("meets 3", x.meets(3, 0), -1);
        due.is("meets 0 and 3", x.meets(0, 3), -1);
        for (int p = 0; p < 3; p++) {
            due.is("alike " + p, x.meets(p, p), -1);
        }
        due.is("o and p", x.meets(0, 1), 0b1100);
        due.is("p and o", x.meets(1, 0), 0b1100);
        due.is("o and q", x.meets(0, 2), 0);
        x.come(2, 0, 0, 23);
        due.is("o and q", x.meets(2, 0), 0b1110);
        x.come(2, 0, 3, 3);
        due.is("one hour", x.meets(2, 0), 0b1000);
        x.come(2, 0, 4, 4);
        due.is("an hour behind", x.meets(2, 0), 0);
        x.days(1, 1);
        due.is("p is away", x.there(0, 2), 0b001);
        due.is("they would meet", x.meets(0, 1), 0b1100);
        x.come(0, 0, 0, 23);
        x.come(2, 0, 0, 23);
        due.is("all hours", x.meets(2, 0), 0xffffff);
    }

    // 20 "NONE: no such ones", 21 "by the latest best() that was not NONE (NONE: no HOURS); NONE for another what, or ahead of any"
    private static void best() {
        OffTheLead x = Due.parkOf(PARK);
        for (int what = -1; what <= 2; what++) {
            due.is("ahead of any " + what, x.bestAt(what), -1);
        }
        due.is("not one", x.best(2, 1), -1);
        due.is("ahead of any", x.bestAt(0), -1);
        due.is("q alone", x.best(1, 1), 24 + 2 + 2);
        due.is("from", x.bestAt(0), 0);
        due.is("to", x.bestAt(1), 23);
        due.is("what 2", x.bestAt(2), -1);
        due.is("what -1", x.bestAt(-1), -1);
        for (int far : FAR) {
            due.is("what " + far, x.bestAt(far), -1);
            due.is("best " + far, x.best(far, 1), -1);
            due.is("best by " + far, x.best(1, far), -1);
        }
        due.is("best 2", x.best(2, 1), -1);
        due.is("best by 2", x.best(1, 2), -1);
        due.is("best by -1", x.best(1, -1), -1);
        due.is("from stays", x.bestAt(0), 0);
        due.is("to stays", x.bestAt(1), 23);
        x.come(2, 0, 0, 0);
        due.is("nobody there", x.best(1, 0), 2 + 2);
        due.is("no hours", x.bestAt(0), -1);
        due.is("no hours", x.bestAt(1), -1);
        due.is("all is as it was", x.place(1, 0), 1 << 5);
    }

    // 23 "NoSuchElementException: no such ones, he has a DOG", 24 "NONE: he has a DOG, no such one"
    private static void risksAndPerils() {
        OffTheLead x = Due.parkOf(PARK);
        for (int far : FAR) {
            due.noSuch("risk of " + far, () -> x.risk(far, 0));
            due.noSuch("risk, what " + far, () -> x.risk(1, far));
            due.is("perils of " + far, x.perils(far), -1);
        }
        for (int what = 0; what < 2; what++) {
            int asked = what;
            due.noSuch("an owner", () -> x.risk(0, asked));
            due.noSuch("an owner", () -> x.risk(2, asked));
            due.noSuch("nobody", () -> x.risk(3, asked));
        }
        due.noSuch("what 2", () -> x.risk(1, 2));
        due.is("an owner", x.perils(0), -1);
        due.is("an owner", x.perils(2), -1);
        due.is("nobody", x.perils(3), -1);
        due.is("perils", x.perils(1), 2);
        due.is("above", x.risk(1, 0), 1);
        due.is("below", x.risk(1, 1), 1);
        x.hold(0, 1);
        due.is("an owner whose dog is held", x.perils(0), -1);
        due.noSuch("an owner whose dog is held", () -> x.risk(0, 0));
        due.is("no perils", x.perils(1), 0);
        due.is("above", x.risk(1, 0), 0);
        due.is("below", x.risk(1, 1), 1);
    }

    // 26 "by the latest rounds(); NONE: no such one, or ahead of any", 27 "NONE ahead of any"
    private static void rounds() {
        OffTheLead x = Due.parkOf(PARK);
        for (int p = 0; p < 3; p++) {
            due.is("ahead of any", x.parted(p), -1);
        }
        due.is("ahead of any", x.partedGood(), -1);
        due.is("rounds", x.rounds(), 2);
        int[] parted = {0, 1, 0};
        for (int p = 0; p < 3; p++) {
            due.is("parted " + p, x.parted(p), parted[p]);
        }
        for (int p = 3; p <= 9; p++) {
            due.is("nobody " + p, x.parted(p), -1);
        }
        for (int far : FAR) {
            due.is("parted " + far, x.parted(far), -1);
        }
        due.is("good", x.partedGood(), 2 + 3 + 2);
        x.come(1, 1, 9, 9);
        x.allow(0, 3, 3);
        due.is("the latest", x.parted(1), 1);
        due.is("the latest", x.partedGood(), 7);
        due.is("rounds", x.rounds(), 2);
        due.is("good", x.partedGood(), 3 + 1 + 3);
        due.is("nobody goes", x.person(2, 0), 1);
    }

    // 29 to 32 "NONE: no such one", 33 "Byte i of the latest BOARD; NONE: none such"
    private static void boards() {
        OffTheLead x = Due.parkOf(PARK);
        due.is("ahead of any", x.byteAt(0), -1);
        due.is("no such one", x.board(2), -1);
        due.is("ahead of any", x.byteAt(0), -1);
        due.text("a", x, x.board(0), "a free 1 to 2");
        for (int far : FAR) {
            due.is("board " + far, x.board(far), -1);
            due.is("votes " + far, x.votes(far), -1);
            due.is("against " + far, x.against(far), -1);
            due.is("missed " + far, x.missed(far), -1);
            due.is("byte " + far, x.byteAt(far), -1);
        }
        due.is("votes 2", x.votes(2), -1);
        due.is("against 2", x.against(2), -1);
        due.is("missed 2", x.missed(2), -1);
        due.is("byte 0", x.byteAt(0), 'a');
        due.is("byte 12", x.byteAt(12), '2');
        due.is("byte 13", x.byteAt(13), -1);
        due.text("b", x, x.board(1), "b free 5");
        due.is("a shorter one", x.byteAt(8), -1);
        x.forbid(1, 5, 5);
        due.text("the latest stays", x, 8, "b free 5");
    }

    // 34 "Of n (1 to 30) seeds x, x and 1, .."; "NONE: no such ones"
    private static void oddsOfSeeds() {
        OffTheLead x = Due.parkOf("place a;person o a 1 1 0;person p a 1 1 0;dog d o 11 0;free a 1 1;");
        for (int n : new int[] {0, -1, 31, Integer.MIN_VALUE, Integer.MAX_VALUE}) {
            due.is("odds of " + n, x.odds(1, n, 1), -1);
        }
        for (int far : FAR) {
            due.is("odds of person " + far, x.odds(far, 1, 1), -1);
        }
        due.is("odds of person 2", x.odds(2, 1, 1), -1);
        int[] seeds = {0, -5, Integer.MAX_VALUE - 3, Integer.MIN_VALUE, 12345678};
        for (int seed : seeds) {
            int found = 0;
            for (int n = 1; n <= 30; n++) {
                OffTheLead y = Due.parkOf("place a;person o a 1 1 0;person p a 1 1 0;dog d o 11 0;free a 1 1;");
                y.days(7, seed + n - 1);
                found += y.person(1, 5) > 0 ? 1 : 0;
                due.is("odds of " + n + " from " + seed, x.odds(1, n, seed), found);
            }
            due.yes("some, not all", found > 0 && found < 30);
        }
        due.is("an owner", x.odds(0, 30, 1), 0);
    }

    // 34 "behind 7 DAYS from now on"
    private static void oddsOfSevenDays() {
        // p is away for so many days: a fright comes on the first behind them
        for (int away = 1; away <= 9; away++) {
            OffTheLead x = Due.parkOf("place a;person o a 1 1 0;person p a 1 1 " + away + ";dog d o 0 0;free a 1 1;");
            x.days(1, 1);
            long before = all(x);
            due.is("away for " + away, x.odds(1, 3, 1), away < 7 ? 3 : 0);
            due.is("all is as it was", all(x), before);
            due.is("the days alone can be undone", x.undo(), 0);
        }
        OffTheLead end = Due.parkOf("place a;person o a 1 1 0;person p a 1 1 3;dog d o 0 0;free a 1 1;");
        for (int i = 0; i < 13; i++) {
            end.days(30, 1);
        }
        end.days(6, 1);
        due.is("day", end.now(0), 396);
        due.is("p is there", end.now(1), 0);
        due.is("four are left", end.odds(1, 2, 1), 2);
        end.days(1, 1);
        due.is("p is away", end.now(1), 0b10);
        due.is("away for all that are left", end.odds(1, 2, 1), 0);
    }

    // 34 "a PERSON has had a FRIGHT more"
    private static void oddsOfAFrightMore() {
        OffTheLead x = Due.parkOf("place a;person o a 1 1 0;person p a 1 1 0;person q a 1 1 0;dog d o 0 0;free a 1 1;");
        x.days(5, 1);
        due.is("p had five", x.person(1, 5), 5);
        due.is("more", x.odds(1, 4, 1), 4);
        due.is("q has none", x.odds(2, 4, 1), 0);
        x.hold(0, 1);
        due.is("no more", x.odds(1, 4, 1), 0);
    }

    // 35 "-1000: another lives (the tape stays)"
    private static void booksOfOtherLives() {
        OffTheLead x = Due.parkOf(PARK);
        Due.feed(x, "fence a;");
        for (int lives : new int[] {-1, 2, 3, 255, 256, Integer.MIN_VALUE, Integer.MAX_VALUE}) {
            due.is("lives " + lives, x.book(lives), -1000);
            due.is("the tape stays", x.count(3), 8);
        }
        due.is("not fenced", x.place(0, 1), 0);
        due.is("told none", x.told(0), -1);
        due.is("judged", x.book(0), -1);
        due.is("the tape is empty", x.count(3), 0);
    }

    // 35 "it is judged, all staying as it is (lives 0)"
    private static void booksJudged() {
        OffTheLead x = Due.parkOf(PARK);
        Due.sentence(x, "owner");
        x.sign(9);
        long before = all(x);
        due.is("judged", Due.book(x, "sign 2;fence a;allow a 5 5;forbid a 1 1;d held;e held;o comes b 3 3;day 9;", 0), -1);
        due.is("all stays", all(x), before);
        due.is("told", x.told(1), 8);
        due.is("the day then", x.told(2), 9);
        due.is("the tape is empty", x.count(3), 0);
        due.is("wrong", Due.book(x, "sign 2;sign 2;", 0), 1);
        due.is("all stays", all(x), before);
        due.is("only the sign is undone", x.undo(), 0);
    }

    // 35 "or lived as far as it is not WRONG (1): the LINE that is WRONG; NONE: none"
    private static void booksLived() {
        OffTheLead x = Due.parkOf(PARK);
        due.is("none", Due.book(x, "sign 4;", 1), -1);
        due.is("the first", Due.book(x, "sign 4;sign 5;", 1), 0);
        due.is("nothing behind it", x.now(2), 4);
        due.is("the third", Due.book(x, "sign 5;fence a;fence b;d loose;sign 6;", 1), 3);
        due.is("ahead of it", x.now(2), 5);
        due.is("ahead of it", x.place(0, 1), 1);
        due.is("ahead of it", x.place(1, 1), 0);
        due.is("the fortieth", Due.book(x, "fence a;".repeat(39) + "sign 5;", 1), 39);
        due.is("39 are lived", x.place(0, 1), 0);
        due.is("39 are told", x.told(1), 39);
        due.is("undone at once", x.undo() >= 0 ? x.place(0, 1) : -1, 1);
    }

    // 35 "-2 less the place of a FAULT": nothing of it is lived
    private static void booksAtFault() {
        OffTheLead x = Due.parkOf(PARK);
        long before = all(x);
        due.is("at the first", Due.book(x, ".", 1), -2);
        due.is("the tape is empty", x.count(3), 0);
        due.is("at the end", Due.book(x, "sign 5;fence a;d held", 1), -23);
        due.is("the tape is empty", x.count(3), 0);
        due.is("behind what is wrong", Due.book(x, "sign 5;sign 5;fence c;", 1), -22);
        due.is("all is as it was", all(x), before);
        due.is("nothing to undo", x.undo(), -1);
        due.is("told none", x.told(0), -1);
    }

    private static void toldIs(OffTheLead x, int... told) {
        for (int what = 0; what < told.length; what++) {
            due.is("told " + what, x.told(what), told[what]);
        }
    }

    // 36 "0 why it was WRONG (0: it was not; 1 .. 51: fewer DAYS are left)"
    private static void booksWrong() {
        String[] texts = {"fence a;fence a;", "allow a 1 1;", "allow a 1 2;", "forbid a 3 23;", "sign 3;", "d held;d held;", "d loose;",
            "e loose;", "o comes a 1 3;", "d held;d loose;d loose;"};
        int[] line = {-1, 0, 0, 0, 0, 1, 0, 0, 0, 2};
        int[] why = {0, 1, 1, 11, 21, 31, 32, 32, 41, 32};
        for (int lives = 0; lives < 2; lives++) {
            for (int i = 0; i < texts.length; i++) {
                OffTheLead x = Due.parkOf(PARK);
                due.is(texts[i], Due.book(x, texts[i], lives), line[i]);
                toldIs(x, why[i], line[i] < 0 ? 2 : line[i], 0, 0);
            }
            OffTheLead x = Due.parkOf(PARK);
            for (int i = 0; i < 13; i++) {
                x.days(30, 1);
            }
            due.is("ten are left", Due.book(x, "day 11;", lives), 0);
            toldIs(x, 51, 0, 390, x.now(1));
            due.is("none of them goes", x.now(0), 390);
            due.is("ten are left", Due.book(x, "day 10;", 0), -1);
            toldIs(x, 0, 1, 400);
            due.is("nine, then two", Due.book(x, "day 9;day 2;", lives), 1);
            toldIs(x, 51, 1, 399);
            due.is("nine if they are lived", x.now(0), lives == 1 ? 399 : 390);
        }
    }

    // 36 "Of the latest book() that had no FAULT (and was not -1000)"; "NONE: another what, or ahead of any"
    private static void told() {
        OffTheLead x = Due.parkOf(PARK);
        toldIs(x, -1, -1, -1, -1, -1);
        Due.book(x, ".", 0);
        toldIs(x, -1, -1, -1, -1, -1);
        Due.book(x, "sign 9;sign 9;", 0);
        toldIs(x, 21, 1, 0, 0, -1);
        Due.book(x, "", 0);
        toldIs(x, 0, 0, 0, 0, -1);
        Due.book(x, "day 3;d loose;", 0);
        toldIs(x, 32, 1, 3, 0b010, -1);
        due.is("nobody is away now", x.now(1), 0);
        x.days(1, 1);
        Due.book(x, "fence b;fence c;", 0);
        toldIs(x, 32, 1, 3, 0b010, -1);
        x.book(2);
        toldIs(x, 32, 1, 3, 0b010, -1);
        Due.sentence(x, "away");
        x.undo();
        toldIs(x, 32, 1, 3, 0b010, -1);
        for (int far : FAR) {
            due.is("told " + far, x.told(far), -1);
        }
        due.is("told 4", x.told(4), -1);
    }

    // 37 "-1 less the place of a FAULT: it stays"
    private static void sentences() {
        OffTheLead x = Due.parkOf(PARK);
        due.is("ones", Due.sentence(x, "not(owner or at a)"), 4);
        due.is("nobody", x.said(-1), 0);
        due.is("ones", Due.sentence(x, "owner and at b"), 2);
        due.is("q", x.said(0), 2);
        String[] texts = {"", ".", "at c", "not", "away or", "not ".repeat(8) + "away", "away" + " or away".repeat(20), " ".repeat(201)};
        int[] at = {0, 0, 3, 3, 7, 32, 160, 200};
        for (int i = 0; i < texts.length; i++) {
            due.is("sentence " + texts[i], Due.sentence(x, texts[i]), -1 - at[i]);
            due.is("the tape is empty", x.count(3), 0);
            due.is("it stays", x.said(-1), 1);
            due.is("it stays", x.said(0), 2);
        }
        x.hold(1, 1);
        due.is("one whose dog is held has one", x.said(-1), 1);
        x.come(2, 0, 1, 1);
        due.is("it is said of what is so", x.said(-1), 0);
    }

    // 38 "how many (k NONE), or the k-th. NONE: there is no SENTENCE, none such"
    private static void said() {
        OffTheLead x = Due.parkOf(PARK);
        for (int k = -2; k <= 8; k++) {
            due.is("there is none, " + k, x.said(k), -1);
        }
        Due.sentence(x, "owner");
        int[] want = {-1, 2, 0, 2, -1, -1};
        for (int k = -2; k <= 3; k++) {
            due.is("owner " + k, x.said(k), want[k + 2]);
        }
        for (int far : FAR) {
            if (far != -1) {
                due.is("owner " + far, x.said(far), -1);
            }
        }
        Due.sentence(x, "away");
        due.is("nobody", x.said(-1), 0);
        due.is("nobody", x.said(0), -1);
        Due.sentence(x, "not away");
        due.is("all", x.said(-1), 3);
        due.is("the last", x.said(2), 2);
        due.is("none such", x.said(3), -1);
        OffTheLead y = new OffTheLead();
        Due.sentence(y, "not away");
        due.is("of nobody", y.said(-1), 0);
        due.is("of nobody", y.said(0), -1);
    }

    // 39 "kept in place k (0, 1): true; false: no such one"
    private static void images() {
        OffTheLead x = Due.parkOf(PARK);
        for (int far : FAR) {
            due.no("image " + far, x.image(far));
            due.no("restore " + far, x.restore(far));
        }
        due.no("image 2", x.image(2));
        due.no("nothing is kept in 0", x.restore(0));
        due.no("nothing is kept in 1", x.restore(1));
        due.no("nothing is kept in 2", x.restore(2));
        due.yes("image 1", x.image(1));
        due.no("nothing is kept in 0", x.restore(0));
        due.yes("restore 1", x.restore(1));
        due.yes("image 0", x.image(0));
        due.yes("restore 0", x.restore(0));
        // the latest of a place is kept
        x.sign(8);
        x.image(0);
        x.sign(9);
        x.restore(0);
        due.is("the latest", x.now(2), 8);
        x.restore(1);
        due.is("the other one", x.now(2), 3);
        OffTheLead y = new OffTheLead();
        y.image(0);
        Due.park(y, PARK);
        y.restore(0);
        due.is("an empty park", all(y), all(new OffTheLead()));
    }

    // 40 "They are as kept in place k (the tape, and what other calls told last, stays; nothing can be undone)"
    private static void restores() {
        OffTheLead x = Due.parkOf(PARK);
        x.days(2, 1);
        x.hold(1, 1);
        x.fence(0);
        Due.sentence(x, "at a");
        long kept = all(x);
        x.image(1);
        x.sign(11);
        due.is("an image can be undone behind", x.undo(), 3);
        Due.park(x, "place z;person y z 1 2 3;");
        x.days(5, 5);
        x.best(0, 1);
        x.rounds();
        x.board(0);
        Due.book(x, "sign 2;", 0);
        Due.sentence(x, "at c");
        x.feed(0x73696720, 0, 0, 0, 0);
        x.sign(4);
        due.no("nothing is kept in 0", x.restore(0));
        due.is("it can be undone yet", x.undo(), 1);
        due.yes("restore", x.restore(1));
        due.is("as kept", all(x), kept);
        due.is("persons", x.count(1), 3);
        due.is("the tape was not empty", Due.book(x, "d held;p comes b 1 1;", 0), -2);
        due.is("a name that is not told ahead", x.fault(), 3);
        due.is("names", Due.book(x, "d held;p comes b 1 1;", 0), -1);
        due.is("said", x.said(-1), 2);
        due.is("nothing can be undone", x.undo(), -1);
        x.sign(7);
        due.is("what came behind can", x.undo(), 0);
        due.is("what came behind can", all(x), kept);
        x.feed(0, 0, 0, 0, 0);
        Due.park(x, "");
        Due.sentence(x, "at c");
        x.feed(0, 0, 0, 0, 0);
        x.restore(1);
        due.is("tape", x.count(3), 20);
        due.is("fault", x.fault(), 3);
        due.is("best", x.bestAt(0), -1);
        due.is("parted", x.parted(0), 0);
        due.is("good then", x.partedGood(), 2);
        due.text("board", x, 13, "z on the lead");
        due.is("told", x.told(1), 2);
    }

    // 41 "NONE for another what"
    private static void counts() {
        OffTheLead x = Due.parkOf(PARK);
        for (int far : FAR) {
            due.is("count " + far, x.count(far), -1);
        }
        due.is("count 4", x.count(4), -1);
        int[] want = {2, 3, 2, 0};
        for (int what = 0; what < 4; what++) {
            due.is("count " + what, x.count(what), want[what]);
        }
        x.feed(0, 0, 0, 0, 0);
        due.is("bytes", x.count(3), 20);
    }

    // "A call that throws changes nothing."
    private static void throwing() {
        OffTheLead x = Due.parkOf("place a;person o a 0 8 0;person p a 0 8 0;dog d o 3 0;free a 1 2;");
        x.sign(5);
        x.best(0, 1);
        x.board(0);
        Due.sentence(x, "owner");
        Due.feed(x, "abc");
        long before = all(x);
        due.noSuch("person", () -> x.person(2, 0));
        due.noSuch("person", () -> x.person(0, 9));
        due.noSuch("dog", () -> x.dog(1, 0));
        due.noSuch("dog", () -> x.dog(0, 6));
        due.noSuch("risk", () -> x.risk(0, 0));
        due.noSuch("risk of nine", () -> x.risk(1, 0));
        due.noSuch("risk", () -> x.risk(1, 2));
        due.is("all is as it was", all(x), before);
        due.is("tape", x.count(3), 3);
        due.is("fault", x.fault(), 0);
        due.is("byte", x.byteAt(0), 'a');
        due.is("undo", x.undo(), 0);
    }
}
