/** Promises 1 (a new object), 2 (feed), 3 (end), 41 (count). */
public final class TapeTest {
    public static void main(String[] args) {
        Due due = new Due();
        newObject(due);
        feedAndEnd(due);
        counts(due);
        due.finish("TapeTest");
    }

    private static void newObject(Due due) {
        OffTheLead x = new OffTheLead();
        for (int what = 0; what < 4; what++) {
            due.is("new count " + what, x.count(what), 0);
        }
        int[] now = {0, 0, 2, 0, 0, 0, 0, 0};
        for (int what = 0; what < now.length; what++) {
            due.is("new now " + what, x.now(what), now[what]);
        }
        due.is("new fault", x.fault(), 0);
        due.is("new said", x.said(-1), -1);
        due.is("new undo", x.undo(), -1);
        due.no("new restore", x.restore(0));
        due.is("NONE", OffTheLead.NONE, -1);
    }

    private static void feedAndEnd(Due due) {
        OffTheLead x = new OffTheLead();
        for (int i = 1; i <= 47; i++) {
            due.is("feed " + i, x.feed(i, i, i, i, i), 20 * i);
        }
        due.is("feed over 940", x.feed(1, 1, 1, 1, 1), -1);
        due.is("count stays", x.count(3), 940);
        due.no("end above", x.end(941));
        due.no("end below 0", x.end(-1));
        due.no("end far below 0", x.end(Integer.MIN_VALUE));
        due.is("count stays by a false end", x.count(3), 940);
        due.yes("end of all", x.end(940));
        due.yes("end 921", x.end(921));
        due.is("feed to 941", x.feed(1, 1, 1, 1, 1), -1);
        due.yes("end 920", x.end(920));
        due.is("feed to 940", x.feed(1, 1, 1, 1, 1), 940);
        due.yes("end 0", x.end(0));
        due.is("count 0", x.count(3), 0);
        due.no("end 1 of none", x.end(1));

        // the highest byte of each number comes first: 'place lawn' and blanks
        due.is("feed text", x.feed(0x706c6163, 0x65206c61, 0x776e3b20, 0x20202020, 0x0a0a0a0a), 20);
        due.is("park by bytes", x.park(), 1);
        due.text("board", x, x.board(0), "lawn on the lead");

        // what is behind the end does not come back
        Due.feed(x, "place a;place b;");
        x.end(8);
        Due.feed(x, "place c;");
        due.is("park of what stayed", x.park(), 2);
        due.text("board 1", x, x.board(1), "c on the lead");
    }

    private static void counts(Due due) {
        OffTheLead x = Due.parkOf("place a;place b;place c;person p a 1 2 3;person q a 1 2 3;dog d p 1 1;");
        Due.feed(x, "12345");
        int[] want = {3, 2, 1, 5};
        for (int what = 0; what < want.length; what++) {
            due.is("count " + what, x.count(what), want[what]);
        }
        due.is("count 4", x.count(4), -1);
        due.is("count -1", x.count(-1), -1);
    }
}
