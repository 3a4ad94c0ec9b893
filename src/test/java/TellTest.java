/** Promises 18 (there), 19 (meets), 28 (tracks), 29 to 31 (a meeting), 32 (board), 33 (byteAt). */
public final class TellTest {
    private static final Due due = new Due();

    public static void main(String[] args) {
        there();
        meets();
        tracks();
        tracksWrong();
        meeting();
        boards();
        due.finish("TellTest");
    }

    private static OffTheLead usual() {
        return Due.parkOf("place a;place b;person o a 6 9 0;person p a 8 11 4;person q b 8 8 0;person r a 9 23 0;"
                + "dog d o 0 0;dog e q 0 0;dog f r 12 0;dog g o 12 0;free a 6 9;");
    }

    private static void there() {
        OffTheLead x = usual();
        due.is("at five", x.there(0, 5), 0);
        due.is("at six", x.there(0, 6), 0b0001);
        due.is("at eight", x.there(0, 8), 0b0011);
        due.is("at nine", x.there(0, 9), 0b1011);
        due.is("at ten", x.there(0, 10), 0b1010);
        due.is("at 23", x.there(0, 23), 0b1000);
        due.is("b at eight", x.there(1, 8), 0b0100);
        due.is("b at nine", x.there(1, 9), 0);
        x.days(1, 1);
        due.is("p is away", x.there(0, 8), 0b0001);
        due.is("no place", x.there(2, 8), -1);
        due.is("place -1", x.there(-1, 8), -1);
        due.is("hour 24", x.there(0, 24), -1);
        due.is("hour -1", x.there(0, -1), -1);
    }

    private static void meets() {
        OffTheLead x = usual();
        due.is("o and p", x.meets(0, 1), 0b1100000000);
        due.is("p and o", x.meets(1, 0), 0b1100000000);
        due.is("o and q", x.meets(0, 2), 0);
        due.is("p and r", x.meets(1, 3), 0b111000000000);
        x.days(1, 1);
        due.is("away or not", x.meets(0, 1), 0b1100000000);
        due.is("alike", x.meets(1, 1), -1);
        due.is("nobody", x.meets(1, 4), -1);
        due.is("nobody", x.meets(4, 1), -1);
        due.is("nobody", x.meets(-1, 1), -1);
        x.come(1, 0, 10, 10);
        due.is("not at one hour", x.meets(0, 1), 0);
    }

    private static void tracks() {
        OffTheLead x = usual();
        due.is("a at six", Due.tracks(x, 0, 6), 0b1001);
        due.is("tape is empty", x.count(3), 0);
        due.is("a at nine", Due.tracks(x, 0, 9), 0b1101);
        due.is("a at six and nine", Due.tracks(x, 0, 6, 0, 9), 0b1001);
        due.is("a at six and b at eight", Due.tracks(x, 0, 6, 1, 8), 0);
        due.is("b at eight", Due.tracks(x, 1, 8), 0b0010);
        due.is("a at 23", Due.tracks(x, 0, 23), 0b0100);
        due.is("ten", Due.tracks(x, 0, 6, 0, 7, 0, 8, 0, 9, 0, 6, 0, 7, 0, 8, 0, 9, 0, 6, 0, 7), 0b1001);
        x.hold(0, 1);
        due.is("held ones leave tracks", Due.tracks(x, 0, 6), 0b1001);
        due.is("fault is left", x.fault(), 0);
    }

    private static void tracksWrong() {
        OffTheLead x = usual();
        int[][] wrong = {{}, {0}, {0, 6, 0}, {0, 24}, {0, 255}, {2, 6}, {255, 6}, {0, 6, 2, 6}, {2, 6, 0, 6}, {0, 6, 0, 99},
            {0, 6, 0, 7, 0, 8, 0, 9, 0, 6, 0, 7, 0, 8, 0, 9, 0, 6, 0, 7, 0, 8},
            {0, 6, 0, 7, 0, 8, 0, 9, 0, 6, 0, 7, 0, 8, 0, 9, 0, 6, 0, 7, 0},
            {0, 24, 1, 8}, {0, 6, 1, 8, 0, 24}};
        for (int[] pairs : wrong) {
            due.is("tracks of " + pairs.length, Due.tracks(x, pairs), -1);
            due.is("tape is empty", x.count(3), 0);
        }
        due.is("no park", Due.tracks(new OffTheLead(), 0, 0), -1);
        due.is("no dogs", Due.tracks(Due.parkOf("place a;"), 0, 0), 0);
    }

    private static void meetingIs(OffTheLead x, int l, int votes, int against, int missed) {
        due.is("votes " + l, x.votes(l), votes);
        due.is("against " + l, x.against(l), against);
        due.is("missed " + l, x.missed(l), missed);
    }

    private static void meeting() {
        OffTheLead x = usual();
        meetingIs(x, 0, 2, 1, 0);
        meetingIs(x, 1, 1, 0, 0);
        x.days(1, 1);
        meetingIs(x, 0, 2, 0, 1);
        x.come(1, 1, 0, 0);
        meetingIs(x, 0, 2, 0, 0);
        meetingIs(x, 1, 1, 0, 1);
        meetingIs(x, 2, -1, -1, -1);
        meetingIs(x, -1, -1, -1, -1);
        x.days(3, 1);
        meetingIs(x, 1, 1, 0, 1);
        x.days(1, 1);
        meetingIs(x, 1, 1, 1, 0);
    }

    private static void boards() {
        OffTheLead x = Due.parkOf("place lawn;place z fenced;place abcdefg;free z 6 9;free z 10 12;free abcdefg 5 5;");
        due.is("ahead of any", x.byteAt(0), -1);
        due.text("lawn", x, x.board(0), "lawn on the lead");
        due.text("z", x, x.board(1), "z free 6 to 12");
        due.text("abcdefg", x, x.board(2), "abcdefg free 5");
        due.is("no such", x.board(3), -1);
        due.is("no such", x.board(-1), -1);
        due.text("the latest stays", x, 14, "abcdefg free 5");
        due.is("byte -1", x.byteAt(-1), -1);
        due.is("byte 14", x.byteAt(14), -1);
        x.allow(2, 7, 7);
        due.text("and more", x, x.board(2), "abcdefg free 5 and more");
        x.allow(2, 22, 23);
        x.forbid(2, 0, 20);
        due.text("late", x, x.board(2), "abcdefg free 22 to 23");
        x.allow(2, 0, 1);
        due.text("night", x, x.board(2), "abcdefg free 0 to 1 and more");
        x.allow(2, 0, 23);
        due.text("all", x, x.board(2), "abcdefg free 0 to 23");
        x.forbid(2, 11, 11);
        due.text("two", x, x.board(2), "abcdefg free 0 to 10 and more");
        x.forbid(2, 0, 22);
        due.text("the last", x, x.board(2), "abcdefg free 23");
        x.image(0);
        Due.park(x, "place q;");
        due.text("it stays by another park", x, 15, "abcdefg free 23");
    }
}
