/** The edges that section 2 names for acts and DAYS: each sentence by itself. */
public final class EdgeDayTest {
    private static final Due due = new Due();

    public static void main(String[] args) {
        freeHours();
        allowing();
        forbidding();
        fencing();
        signing();
        holding();
        coming();
        fourHundredDays();
        drawsWrap();
        drawsGoOn();
        hourByHourDogByDog();
        theSignIsKept();
        theLeadWhereNobodyIs();
        obeying();
        biting();
        fencedToNobody();
        nobodyNoDraw();
        toTheFirst();
        ownersAreLeftAlone();
        notThereAnyMore();
        awayByFear();
        aDayLess();
        due.finish("EdgeDayTest");
    }

    private static int next(int x) {
        return x * 1103515245 + 12345;
    }

    private static int drawn(int x) {
        return (x >>> 8) % 12;
    }

    /** A seed whose first draws are these. */
    private static int seedOf(int... draws) {
        for (int seed = 0; seed < 10_000_000; seed++) {
            int x = seed;
            int alike = 0;
            for (int draw : draws) {
                x = next(x);
                if (drawn(x) != draw) {
                    break;
                }
                alike++;
            }
            if (alike == draws.length) {
                return seed;
            }
        }
        throw new IllegalArgumentException("no such seed");
    }

    // "free in the HOURS that are told or were allowed since, less those forbidden"
    private static void freeHours() {
        OffTheLead x = Due.parkOf("place a;place b;free a 3 5;");
        x.allow(0, 5, 7);
        due.is("told and allowed", x.place(0, 0), 0b11111000);
        x.forbid(0, 4, 6);
        due.is("less those forbidden", x.place(0, 0), 0b10001000);
        x.allow(0, 5, 5);
        due.is("and allowed again", x.place(0, 0), 0b10101000);
        due.is("of this place alone", x.place(1, 0), 0);
        x.allow(1, 0, 0);
        x.allow(1, 23, 23);
        due.is("the first and the last hour", x.place(1, 0), 1 | 1 << 23);
        x.forbid(1, 0, 0);
        due.is("the last hour", x.place(1, 0), 1 << 23);
        x.forbid(1, 23, 23);
        due.is("none", x.place(1, 0), 0);
        due.is("of this place alone", x.place(0, 0), 0b10101000);
    }

    // "To ALLOW HOURS of a PLACE: why not: 1 all of them are free"
    private static void allowing() {
        OffTheLead x = Due.parkOf("place a;free a 3 5;free a 7 7;");
        due.is("all", x.allow(0, 3, 5), 1);
        due.is("one of them", x.allow(0, 4, 4), 1);
        due.is("the first", x.allow(0, 3, 3), 1);
        due.is("the last", x.allow(0, 7, 7), 1);
        due.is("nothing came of it", x.place(0, 0), 0b10111000);
        due.is("nothing to undo", x.undo(), -1);
        due.is("all but one", x.allow(0, 3, 7), 0);
        due.is("all now", x.allow(0, 3, 7), 1);
        due.is("one below", x.allow(0, 2, 3), 0);
        due.is("one above", x.allow(0, 7, 8), 0);
        due.is("all of those", x.place(0, 0), 0b111111100);
        due.is("all of the day", x.allow(0, 0, 23), 0);
        due.is("again", x.allow(0, 0, 23), 1);
        due.is("again", x.allow(0, 0, 0), 1);
        due.is("again", x.allow(0, 23, 23), 1);
    }

    // "To FORBID them: 1 none of them is"
    private static void forbidding() {
        OffTheLead x = Due.parkOf("place a;free a 3 5;");
        due.is("none below", x.forbid(0, 0, 2), 1);
        due.is("none above", x.forbid(0, 6, 23), 1);
        due.is("nothing came of it", x.place(0, 0), 0b111000);
        due.is("nothing to undo", x.undo(), -1);
        due.is("one of them", x.forbid(0, 0, 3), 0);
        due.is("the rest", x.place(0, 0), 0b110000);
        due.is("one of them", x.forbid(0, 5, 9), 0);
        due.is("the rest", x.place(0, 0), 0b10000);
        due.is("the last", x.forbid(0, 0, 23), 0);
        due.is("none", x.forbid(0, 0, 23), 1);
    }

    // "To FENCE a PLACE: a fenced one has no fence any more, another one has one"
    private static void fencing() {
        OffTheLead x = Due.parkOf("place a;place b fenced;");
        due.is("has one", x.fence(0), 1);
        due.is("has one", x.place(0, 1), 1);
        due.is("has none", x.fence(0), 0);
        due.is("has none", x.place(0, 1), 0);
        due.is("has none any more", x.fence(1), 0);
        due.is("has none any more", x.place(1, 1), 0);
        due.is("the other one is as it was", x.place(0, 1), 0);
        due.is("has one again", x.fence(1), 1);
        due.is("four of them", x.undo(), 3);
    }

    // "To SIGN n lines: 1 it has so many"
    private static void signing() {
        OffTheLead x = new OffTheLead();
        due.is("2 of a new object", x.sign(2), 1);
        for (int n = 12; n >= 0; n--) {
            due.is("sign " + n, x.sign(n), 0);
            due.is("lines", x.now(2), n);
            due.is("it has so many", x.sign(n), 1);
        }
        due.is("13", x.sign(13), -1);
        due.is("-1", x.sign(-1), -1);
        due.is("0 stays", x.now(2), 0);
    }

    // "To HOLD a DOG: 1 it is HELD: it is, whatever the PLACE; to let it LOOSE: 2 it is not HELD"
    private static void holding() {
        OffTheLead x = Due.parkOf("place a;place b fenced;person o a 3 5 0;person p a 3 5 0;dog d o 0 12;dog e o 0 12;free a 0 23;free b 0 23;");
        due.is("not held", x.hold(0, 0), 2);
        due.is("held", x.hold(0, 1), 0);
        due.is("held already", x.hold(0, 1), 1);
        due.is("the other one is not", x.hold(1, 0), 2);
        due.is("the other one", x.hold(1, 1), 0);
        due.is("both", x.now(7), 3);
        x.days(3, 1);
        due.is("held where it is free", x.now(3), 0);
        x.come(0, 1, 3, 5);
        due.is("held at another place", x.now(7), 3);
        x.come(0, 0, 3, 5);
        x.sign(12);
        x.forbid(0, 0, 23);
        x.days(3, 1);
        due.is("held where it is not", x.now(3), 0);
        due.is("loose", x.hold(0, 0), 0);
        due.is("not held", x.hold(0, 0), 2);
        due.is("one is", x.now(7), 2);
        x.days(1, 1);
        due.is("loose", x.now(3), 1);
        due.is("by the loose one", x.dog(0, 4), 1);
    }

    // "To COME elsewhere: 1 it is as it was: a PERSON's PLACE and HOURS are those told now"
    private static void coming() {
        OffTheLead x = Due.parkOf("place a;place b;person p a 3 5 7;");
        due.is("as it was", x.come(0, 0, 3, 5), 1);
        due.is("nothing to undo", x.undo(), -1);
        due.is("another place alone", x.come(0, 1, 3, 5), 0);
        due.is("there", x.there(1, 3), 1);
        due.is("not here", x.there(0, 3), 0);
        due.is("another from alone", x.come(0, 1, 2, 5), 0);
        due.is("there", x.there(1, 2), 1);
        due.is("another to alone", x.come(0, 1, 2, 4), 0);
        due.is("not there", x.there(1, 5), 0);
        due.is("as it was", x.come(0, 1, 2, 4), 1);
        due.is("the whole day", x.come(0, 1, 0, 23), 0);
        due.is("the last hour", x.come(0, 1, 23, 23), 0);
        due.is("the first hour", x.come(0, 0, 0, 0), 0);
        due.is("there", x.there(0, 0), 1);
        due.is("fear is as it was", x.person(0, 3), 7);
    }

    // "A DAY (0 to 399; 400: all are over)"
    private static void fourHundredDays() {
        OffTheLead x = Due.parkOf("place a;person o a 1 1 0;person p a 1 1 0;dog d o 0 0;free a 1 1;");
        for (int i = 0; i < 13; i++) {
            due.is("30 days", x.days(30, i), 30);
        }
        due.is("nine", x.days(9, 1), 9);
        due.is("the last day", x.now(0), 399);
        due.is("one is left", x.days(2, 1), 1);
        due.is("all are over", x.now(0), 400);
        due.is("a fright on each", x.now(3), 400);
        due.is("none is left", x.days(1, 1), 0);
        due.is("none is left", x.days(30, 1), 0);
        due.is("not as told even then", x.days(31, 1), -1);
        due.is("not as told even then", x.days(0, 1), -1);
        due.is("no fright more", x.now(3), 400);
        due.is("none of 0 is undone", x.undo(), 7);
        due.is("the last one is", x.now(0), 399);
        due.is("it goes again", x.days(1, 1), 1);
    }

    // "x becomes x * 1103515245 + 12345, an int, wrapping; the draw is (x >>> 8) % n"
    private static void drawsWrap() {
        int[] seeds = {0, 1, -1, 2, 77, 12345, Integer.MAX_VALUE, Integer.MIN_VALUE, 1 << 30, -987654321, 0x7fffff00};
        boolean above = false;
        boolean below = false;
        for (int seed : seeds) {
            int x = next(seed);
            above |= x > 0;
            below |= x < 0;
            for (int obeys = 0; obeys <= 12; obeys++) {
                OffTheLead y = Due.parkOf("place a;person o a 1 1 0;person p a 1 1 0;dog d o " + obeys + " 0;free a 1 1;");
                y.days(1, seed);
                due.is("seed " + seed + ", obeys " + obeys, y.now(3), drawn(x) < obeys ? 0 : 1);
            }
        }
        due.yes("an x above 0", above);
        due.yes("an x below 0", below);
        // the least and the highest draw
        OffTheLead least = Due.parkOf("place a;person o a 1 1 0;person p a 1 1 0;dog d o 1 0;free a 1 1;");
        least.days(1, seedOf(0));
        due.is("a draw of 0", least.now(3), 0);
        OffTheLead highest = Due.parkOf("place a;person o a 1 1 0;person p a 1 1 0;dog d o 11 0;free a 1 1;");
        highest.days(1, seedOf(11));
        due.is("a draw of 11", highest.now(3), 1);
    }

    // "DAYS one behind the other go on with it"
    private static void drawsGoOn() {
        String park = "place a;person o a 1 1 0;person p a 1 1 0;dog d o 6 0;free a 1 1;";
        // with the first draw again it would be two frights or none
        OffTheLead x = Due.parkOf(park);
        x.days(2, seedOf(6, 0, 5));
        due.is("the first day alone", x.now(3), 1);
        OffTheLead y = Due.parkOf(park);
        y.days(2, seedOf(5, 6));
        due.is("the second day alone", y.now(3), 1);
        OffTheLead z = Due.parkOf(park);
        z.days(1, seedOf(6, 0, 5));
        z.days(1, seedOf(6, 0, 5));
        due.is("each call with its seed", z.now(3), 2);
        OffTheLead w = Due.parkOf(park);
        w.days(3, seedOf(5, 5, 6));
        due.is("no draw is left out", w.now(3), 1);
    }

    // "HOUR by HOUR, DOG by DOG that comes in it"
    private static void hourByHourDogByDog() {
        // at 1: d, then e; at 2: d; p comes at 1, q at 2
        String park = "place a;person o a 1 2 0;person r a 1 1 0;person p a 1 1 0;person q a 2 2 0;dog d o 6 0;dog e r 6 0;free a 0 23;";
        OffTheLead x = Due.parkOf(park);
        x.days(1, seedOf(0, 6, 0, 0));
        due.is("d obeys, e runs, d obeys", x.dog(0, 4) * 10 + x.dog(1, 4), 1);
        due.is("up to p", x.person(2, 5), 1);
        due.is("not to q", x.person(3, 5), 0);
        OffTheLead y = Due.parkOf(park);
        y.days(1, seedOf(0, 0, 6));
        due.is("d at 2", y.dog(0, 4) * 10 + y.dog(1, 4), 10);
        due.is("up to q", y.person(3, 5), 1);
        OffTheLead z = Due.parkOf(park);
        z.days(1, seedOf(6, 0, 6));
        due.is("d at 1 and 2, nobody for e", z.dog(0, 4) * 10 + z.dog(1, 4), 20);
        OffTheLead first = Due.parkOf("place a;person o a 0 0 0;person p a 0 0 0;dog d o 0 0;free a 0 0;");
        first.days(1, 1);
        due.is("the first hour", first.now(3), 1);
        OffTheLead last = Due.parkOf("place a;person o a 23 23 0;person p a 23 23 0;dog d o 0 0;free a 23 23;");
        last.days(1, 1);
        due.is("the last hour", last.now(3), 1);
        OffTheLead never = Due.parkOf("place a;person o a 3 4 0;person p a 5 6 0;person q a 1 2 0;dog d o 0 0;free a 0 23;");
        never.days(5, 1);
        due.is("at other hours", never.now(3), 0);
    }

    // "a draw of 12: as many as the sign has lines, or above: it is on the lead, no more of it"
    private static void theSignIsKept() {
        for (int lines = 0; lines <= 12; lines++) {
            for (int draw = 0; draw <= 11; draw++) {
                OffTheLead x = Due.parkOf("place a;person p a 1 1 5;person o a 1 1 0;dog d o 0 0;sign " + lines + ";");
                x.days(1, seedOf(draw));
                due.is("sign " + lines + ", draw " + draw, x.now(3), draw < lines ? 1 : 0);
                due.is("away, sign " + lines + ", draw " + draw, x.now(1), draw < lines ? 1 : 0);
            }
        }
        // on the lead: no draw more; e is next
        OffTheLead x = Due.parkOf("place a;place b;person o a 1 1 0;person p a 1 1 0;person r b 1 1 0;person q b 1 1 0;"
                + "dog d o 0 0;dog e r 6 0;free b 1 1;sign 4;");
        x.days(1, seedOf(4, 6));
        due.is("e runs by the second draw", x.dog(0, 4) * 10 + x.dog(1, 4), 1);
        // where it is free there is no such draw, whatever the sign
        OffTheLead y = Due.parkOf("place a;person o a 1 2 0;person p a 1 1 0;dog d o 6 0;free a 1 1;sign 0;");
        y.days(1, seedOf(6));
        due.is("the sign of a free hour", y.now(3), 1);
        OffTheLead z = Due.parkOf("place a;person o a 1 2 0;person p a 2 2 0;dog d o 6 0;free a 1 1;sign 12;");
        z.days(1, seedOf(0, 6));
        due.is("behind the free hour", z.now(3), 1);
    }

    // "where the PLACE is not free, a draw": it comes ahead of whom it would run up to
    private static void theLeadWhereNobodyIs() {
        OffTheLead x = Due.parkOf("place a;place b;person o a 1 1 0;person r b 1 1 0;person q b 1 1 0;dog d o 0 0;dog e r 6 0;free b 1 1;sign 12;");
        x.days(1, seedOf(0, 6));
        due.is("the second draw is e's", x.dog(1, 4), 1);
        x.fence(0);
        x.days(1, seedOf(0, 6));
        due.is("behind a fence, too", x.dog(1, 4), 2);
    }

    // "a draw of 12: below OBEYS it does not"
    private static void obeying() {
        for (int obeys = 0; obeys <= 12; obeys++) {
            for (int draw = 0; draw <= 11; draw++) {
                OffTheLead x = Due.parkOf("place a;person p a 1 1 5;person o a 1 1 0;dog d o " + obeys + " 0;free a 1 1;");
                x.days(1, seedOf(draw));
                int runs = draw < obeys ? 0 : 1;
                due.is("fright, obeys " + obeys + ", draw " + draw, x.person(0, 5), runs);
                due.is("complaints", x.now(3), runs);
                due.is("ran", x.dog(0, 4), runs);
                due.is("away", x.person(0, 4), 5 * runs);
            }
        }
        // one that obeys has no draw for the bite
        OffTheLead y = Due.parkOf("place a;person o a 1 2 0;person p a 1 2 0;dog d o 6 0;free a 1 2;");
        y.days(1, seedOf(5, 6));
        due.is("the second draw is of hour 2", y.now(3), 1);
    }

    // "and a draw of 12: below BITES: he has a BITE more"
    private static void biting() {
        for (int bites = 0; bites <= 12; bites++) {
            for (int draw = 0; draw <= 11; draw++) {
                OffTheLead x = Due.parkOf("place a;person p a 1 1 5;person o a 1 1 0;dog d o 6 " + bites + ";free a 1 1;");
                x.days(1, seedOf(6, draw));
                int bit = draw < bites ? 1 : 0;
                due.is("bite, bites " + bites + ", draw " + draw, x.person(0, 6), bit);
                due.is("bites of all", x.now(4), bit);
                due.is("bit", x.dog(0, 5), bit);
                due.is("a fright all the same", x.person(0, 5), 1);
            }
        }
    }

    // "in a fenced PLACE: to nobody"
    private static void fencedToNobody() {
        OffTheLead x = Due.parkOf("place a fenced;person o a 1 1 0;person p a 1 1 0;dog d o 0 12;free a 1 1;");
        x.days(30, 1);
        due.is("nobody", x.now(3), 0);
        x.forbid(0, 0, 23);
        x.sign(12);
        x.days(30, 1);
        due.is("nobody", x.now(3), 0);
        x.fence(0);
        x.days(1, 1);
        due.is("without it", x.now(3), 1);
    }

    // "nobody: no draw"
    private static void nobodyNoDraw() {
        String other = "place b;person r b 1 1 0;person q b 1 1 0;dog d o 0 0;dog e r 6 0;free a 1 1;free b 1 1;";
        OffTheLead alone = Due.parkOf("place a;person o a 1 1 0;" + other);
        alone.days(1, seedOf(6));
        due.is("alone", alone.dog(1, 4), 1);
        OffTheLead owners = Due.parkOf("place a;person o a 1 1 0;person s a 1 1 0;dog f s 0 0;" + other);
        owners.days(1, seedOf(6));
        due.is("among owners", owners.dog(2, 4), 1);
        OffTheLead fenced = Due.parkOf("place a fenced;person o a 1 1 0;person s a 1 1 0;" + other);
        fenced.days(1, seedOf(6));
        due.is("behind a fence", fenced.dog(1, 4), 1);
        OffTheLead away = Due.parkOf("place a;person o a 1 1 0;person s a 1 1 9;" + other);
        away.days(1, seedOf(0, 0, 0));
        due.is("s is away", away.now(1), 0b10);
        away.days(1, seedOf(6));
        due.is("who is away is nobody", away.dog(1, 4), 1);
    }

    // "It runs up to the first PERSON who comes there then and has no DOG"
    private static void toTheFirst() {
        OffTheLead x = Due.parkOf("place a;place b;person n b 1 1 0;person m a 2 2 0;person l a 0 0 0;person o a 1 1 0;person p a 1 1 0;"
                + "person q a 1 1 0;dog d o 0 0;free a 0 23;");
        x.days(1, 1);
        int[] frights = {0, 0, 0, 0, 1, 0};
        for (int p = 0; p < 6; p++) {
            due.is("fright of " + p, x.person(p, 5), frights[p]);
        }
        due.is("one alone", x.now(3), 1);
    }

    // "and has no DOG": one whose DOG is HELD has one
    private static void ownersAreLeftAlone() {
        OffTheLead x = Due.parkOf("place a;person p a 1 1 3;person o a 1 1 0;dog d o 0 0;dog e p 12 0;free a 0 23;");
        x.days(5, 1);
        due.is("an owner", x.now(3), 0);
        x.hold(1, 1);
        x.days(5, 1);
        due.is("an owner whose dog is held", x.now(3), 0);
    }

    // "he has a FRIGHT more, complains, is not there any more on this DAY"
    private static void notThereAnyMore() {
        OffTheLead x = Due.parkOf("place a;person o a 1 3 0;person p a 1 3 0;person q a 1 1 0;dog d o 0 0;dog e o 0 0;free a 0 23;");
        x.days(1, 1);
        due.is("p once, though without fear", x.person(1, 5), 1);
        due.is("then q, by the second dog", x.person(2, 5), 1);
        due.is("d once", x.dog(0, 4), 1);
        due.is("e once", x.dog(1, 4), 1);
        due.is("both complain", x.now(3), 2);
        x.days(1, 1);
        due.is("p again on the next", x.person(1, 5), 2);
        due.is("complaints so far", x.now(3), 4);
    }

    // "who had a FRIGHT on this DAY is away for as many DAYS as his FEAR"
    private static void awayByFear() {
        for (int fear = 0; fear <= 30; fear++) {
            OffTheLead x = Due.parkOf("place a;person o a 1 1 0;person p a 1 1 " + fear + ";dog d o 0 0;free a 1 1;");
            x.days(1, 1);
            due.is("away by fear " + fear, x.person(1, 4), fear);
            due.is("bits by fear " + fear, x.now(1), fear > 0 ? 2 : 0);
            due.is("there by fear " + fear, x.there(0, 1), fear > 0 ? 1 : 3);
            if (fear > 0) {
                x.days(fear, 1);
                due.is("no other one by fear " + fear, x.now(3), 1);
                due.is("back by fear " + fear, x.person(1, 4), 0);
            }
            x.days(1, 1);
            due.is("the next one by fear " + fear, x.now(3), 2);
            due.is("away again by fear " + fear, x.person(1, 4), fear);
        }
    }

    // "another one who is away is so for a DAY less"
    private static void aDayLess() {
        OffTheLead x = Due.parkOf("place a;person o a 1 1 0;person p a 1 1 4;person q a 1 1 2;dog d o 0 0;free a 1 1;");
        int[][] away = {{4, 0}, {3, 2}, {2, 1}, {1, 0}, {0, 2}, {4, 1}, {3, 0}};
        for (int i = 0; i < away.length; i++) {
            x.days(1, 1);
            due.is("p on day " + i, x.person(1, 4), away[i][0]);
            due.is("q on day " + i, x.person(2, 4), away[i][1]);
        }
        due.is("no less than 0", x.person(0, 4), 0);
    }
}
