/** Promises 37 (sentence), 38 (said). */
public final class SentenceTest {
    private static final String PARK = "place a;place b;person o a 6 9 0;person p a 8 11 4;person q b 8 11 0;person r a 10 10 0;"
            + "dog d o 0 12;free a 6 9;";

    private static final Due due = new Due();

    public static void main(String[] args) {
        sayings();
        joined();
        said();
        faults();
        limits();
        tooLong();
        staysByFault();
        due.finish("SentenceTest");
    }

    private static void fits(OffTheLead x, String text, int ones, int... persons) {
        due.is("sentence " + text, Due.sentence(x, text), ones);
        due.is("fault of " + text, x.fault(), 0);
        due.is("tape behind " + text, x.count(3), 0);
        due.is("how many: " + text, x.said(-1), persons.length);
        for (int k = 0; k < persons.length; k++) {
            due.is(text + ", " + k, x.said(k), persons[k]);
        }
        due.is("no more: " + text, x.said(persons.length), -1);
    }

    private static void sayings() {
        OffTheLead x = Due.parkOf(PARK);
        fits(x, "away", 1);
        fits(x, "owner", 1, 0);
        fits(x, "meets o", 1, 1);
        fits(x, "meets p", 1, 0, 3);
        fits(x, "meets q", 1);
        fits(x, "at a", 1, 0, 1, 3);
        fits(x, "at b", 1, 2);
        fits(x, "good=4", 1, 0, 2);
        fits(x, "good < 2", 1, 3);
        fits(x, "good>1", 1, 0, 1, 2);
        fits(x, "number=2", 1, 2);
        fits(x, "number>0", 1, 1, 2, 3);
        fits(x, "number<001", 1, 0);
        fits(x, "frights=0", 1, 0, 1, 2, 3);
        fits(x, "bites>0", 1);
        x.days(1, 5);
        fits(x, "away", 1, 1);
        fits(x, "frights>0", 1, 1);
        fits(x, "frights<1", 1, 0, 2, 3);
        fits(x, "bites=1", 1, 1);
        fits(x, "bites<999", 1, 0, 1, 2, 3);
        fits(x, "meets o", 1, 1);
        x.days(3, 5);
        fits(x, "away", 1, 1);
        x.days(1, 5);
        // what may be said follows what is so
        fits(x, "away", 1);
        x.days(1, 5);
        due.is("away again", x.said(-1), 1);
        x.undo();
        due.is("not away", x.said(-1), 0);
    }

    private static void joined() {
        OffTheLead x = Due.parkOf(PARK);
        fits(x, "not owner", 2, 1, 2, 3);
        fits(x, "not not owner", 3, 0);
        fits(x, "(owner)", 2, 0);
        fits(x, "owner or at b", 2, 0, 2);
        fits(x, "not owner and at a", 3, 1, 3);
        fits(x, "not(owner or at b)", 4, 1, 3);
        fits(x, "owner or at a and number>2", 3, 0, 3);
        fits(x, "(owner or at a)and number>2", 4, 3);
        fits(x, "number=3 or number=1 or number=2", 3, 1, 2, 3);
        fits(x, "number>0 and number<3 and not number=2", 4, 1);
        fits(x, "at a and at b or number=0 and owner or number=3 and not at b", 7, 0, 3);
        fits(x, "not\n(\nat a and ( number = 1 or number = 3 ) )", 6, 0, 2);
        fits(x, "number=0 or number=1 and number=2", 3, 0);
        fits(x, "number=1 and number=2 or number=0", 3, 0);
    }

    private static void said() {
        OffTheLead x = Due.parkOf(PARK);
        due.is("no sentence", x.said(-1), -1);
        due.is("no sentence", x.said(0), -1);
        Due.sentence(x, "at a");
        due.is("how many", x.said(-1), 3);
        due.is("the third", x.said(2), 3);
        due.is("a fourth", x.said(3), -1);
        due.is("below", x.said(-2), -1);
        due.is("far below", x.said(Integer.MIN_VALUE), -1);
        due.is("far", x.said(Integer.MAX_VALUE), -1);
        OffTheLead y = new OffTheLead();
        due.is("of nobody", Due.sentence(y, "away"), 1);
        due.is("of nobody", y.said(-1), 0);
        due.is("of nobody", y.said(0), -1);
    }

    private static void bad(String text, int kind, int at) {
        OffTheLead x = Due.parkOf(PARK);
        due.is("sentence " + text, Due.sentence(x, text), -1 - at);
        due.is("fault of " + text, x.fault(), kind);
        due.is("tape behind " + text, x.count(3), 0);
        due.is("no sentence by " + text, x.said(-1), -1);
    }

    private static void faults() {
        bad("", 1, 0);
        bad("  ", 1, 2);
        bad(";", 1, 0);
        bad("away;", 1, 4);
        bad("away away", 1, 5);
        bad("away and", 1, 8);
        bad("away or", 1, 7);
        bad("and away", 1, 0);
        bad("away or and away", 1, 8);
        bad("not", 1, 3);
        bad("not and", 1, 4);
        bad("()", 1, 1);
        bad("(away", 1, 5);
        bad("(away;", 1, 5);
        bad("away)", 1, 4);
        bad("(away))", 1, 6);
        bad("meets", 1, 5);
        bad("meets 3", 1, 6);
        bad("meets at", 1, 6);
        bad("meets a", 3, 6);
        bad("meets x", 3, 6);
        bad("meets d", 3, 6);
        bad("at p", 3, 3);
        bad("at x", 3, 3);
        bad("at (", 1, 3);
        bad("good", 1, 4);
        bad("good 3", 1, 5);
        bad("good ; 3", 1, 5);
        bad("good<", 1, 5);
        bad("good<a", 1, 5);
        bad("good<=3", 1, 5);
        bad("good<1000", 1, 5);
        bad("owner p", 1, 6);
        bad("place", 1, 0);
        bad("o", 1, 0);
        bad("7", 1, 0);
        bad("not Away", 1, 4);
        bad("away.", 1, 4);
        bad("day", 1, 0);
    }

    private static void limits() {
        OffTheLead x = Due.parkOf(PARK);
        String twenty = "away" + " or away".repeat(19);
        due.is("twenty", Due.sentence(x, twenty), 20);
        bad(twenty + " or away", 4, twenty.length() + 4);
        bad(twenty + " or and", 1, twenty.length() + 4);
        bad(twenty + " or (", 4, twenty.length() + 4);
        bad(twenty + " or not", 4, twenty.length() + 4);
        bad(twenty + " or ", 1, twenty.length() + 4);
        bad(twenty + " or x", 1, twenty.length() + 4);
        String eight = "not ".repeat(7) + "owner";
        due.is("eight within", Due.sentence(x, eight), 8);
        due.is("not, seven times", x.said(-1), 3);
        bad("not " + eight, 4, 32);
        due.is("brackets", Due.sentence(x, "(((((((away)))))))"), 8);
        bad("((((((((away))))))))", 4, 8);
        bad("((((((((", 1, 8);
        bad("(((((((((", 4, 8);
        bad("(((((((()", 1, 8);
        due.is("beside one another", Due.sentence(x, "not (not (not away and not away)) and " + eight), 16);
        due.is("brackets side by side", Due.sentence(x, "(away)or(away)or(away)or(away)or(away)or(away)or(away)or(away)or(away)"), 18);
        bad("not ".repeat(21) + "away", 4, 32);
    }

    private static void tooLong() {
        OffTheLead x = Due.parkOf(PARK);
        due.is("200 bytes", Due.sentence(x, "away" + " ".repeat(196)), 1);
        bad("away" + " ".repeat(197), 1, 200);
        bad("away" + " ".repeat(195) + "away", 1, 199);
        bad("away" + " ".repeat(195) + "or away", 1, 200);
        bad("meets" + " ".repeat(194) + "xy", 3, 199);
        bad("meets" + " ".repeat(195) + "xy", 1, 200);
    }

    private static void staysByFault() {
        OffTheLead x = Due.parkOf(PARK);
        Due.sentence(x, "at b");
        due.is("bad", Due.sentence(x, "at a and x"), -10);
        due.is("the one ahead stays", x.said(-1), 1);
        due.is("the one ahead stays", x.said(0), 2);
    }
}
