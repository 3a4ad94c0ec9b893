import java.math.BigInteger;
import java.util.ArrayList;
import java.util.Arrays;
import java.util.HashSet;
import java.util.LinkedHashMap;
import java.util.List;
import java.util.Map;
import java.util.NoSuchElementException;
import java.util.Set;
import java.util.function.IntPredicate;

/** The document written a second time, slowly and with the library, for StrayTest to compare with. */
final class Model {
    private static final Set<String> KEYS = new HashSet<>(Arrays.asList(("place fenced person dog free sign allow forbid"
            + " fence held loose comes day or and not away owner meets at frights bites good number").split(" ")));

    static final class Fault extends RuntimeException {
        private static final long serialVersionUID = 1;
        final int kind;
        final int at;

        Fault(int kind, int at) {
            this.kind = kind;
            this.at = at;
        }
    }

    private record Token(String text, int at, boolean broken) {
        boolean word() {
            return !broken && !text.isEmpty() && Character.isLetter(text.charAt(0));
        }

        boolean number() {
            return !broken && !text.isEmpty() && Character.isDigit(text.charAt(0));
        }

        boolean name() {
            return word() && !KEYS.contains(text);
        }

        boolean is(String s) {
            return !broken && text.equals(s);
        }
    }

    /** All TOKENS of a text, the end as an empty one. */
    private static List<Token> tokens(String text, int most) {
        List<Token> found = new ArrayList<>();
        int i = 0;
        while (i < text.length()) {
            char c = text.charAt(i);
            if (c == ' ' || c == '\n') {
                i++;
                continue;
            }
            int j = i;
            while (j < text.length() && String.valueOf(text.charAt(j)).matches("[a-z0-9]")) {
                j++;
            }
            if (j == i) {
                found.add(new Token("" + c, i, ";<=>()".indexOf(c) < 0));
                i++;
            } else {
                String run = text.substring(i, j);
                found.add(new Token(run, i, !run.matches("[a-z]{1,7}|[0-9]{1,3}")));
                i = j;
            }
        }
        found.add(new Token("", text.length(), false));
        if (text.length() > most) {
            found.removeIf(t -> t.at() >= most);
            found.add(new Token("", most, true));
        }
        return found;
    }

    private static final class Reader {
        final List<Token> all;
        int i = 0;

        Reader(String text, int most) {
            all = tokens(text, most);
        }

        Token look() {
            return all.get(i);
        }

        Token next() {
            return all.get(i++);
        }

        boolean ended() {
            return look().is("");
        }

        Fault fault(int kind) {
            return new Fault(kind, look().at());
        }

        void due(String s) {
            if (!look().is(s)) {
                throw fault(1);
            }
            next();
        }

        int number(int least, int most) {
            if (!look().number()) {
                throw fault(1);
            }
            int n = Integer.parseInt(look().text());
            if (n < least || n > most) {
                throw fault(2);
            }
            next();
            return n;
        }

        int named(Map<String, int[]> names, int sort) {
            if (!look().name()) {
                throw fault(1);
            }
            int[] what = names.get(look().text());
            if (what == null || what[0] != sort) {
                throw fault(3);
            }
            next();
            return what[1];
        }

        String fresh(Map<String, int[]> names) {
            if (!look().name()) {
                throw fault(1);
            }
            if (names.containsKey(look().text())) {
                throw fault(3);
            }
            return next().text();
        }
    }

    /** Rows of numbers: a person is place, from, to, fear, away, frights, bites; a dog owner, obeys, bites, held, ran, bit. */
    private static final class World {
        Map<String, int[]> names = new LinkedHashMap<>();
        List<boolean[]> free = new ArrayList<>();
        List<boolean[]> fence = new ArrayList<>();
        List<String> placeNames = new ArrayList<>();
        List<int[]> persons = new ArrayList<>();
        List<int[]> dogs = new ArrayList<>();
        int sign = 2;
        int day = 0;

        World copy() {
            World w = new World();
            w.names = names;
            w.placeNames = placeNames;
            free.forEach(f -> w.free.add(f.clone()));
            fence.forEach(f -> w.fence.add(f.clone()));
            persons.forEach(p -> w.persons.add(p.clone()));
            dogs.forEach(d -> w.dogs.add(d.clone()));
            w.sign = sign;
            w.day = day;
            return w;
        }

        boolean owner(int p) {
            return dogs.stream().anyMatch(d -> d[0] == p);
        }

        boolean due(int p, int l, int h) {
            int[] q = persons.get(p);
            return q[0] == l && q[1] <= h && h <= q[2];
        }

        int good(int p) {
            int l = persons.get(p)[0];
            int sum = 0;
            for (int h = 0; h < 24; h++) {
                if (due(p, l, h)) {
                    final int hour = h;
                    boolean loose = dogs.stream().anyMatch(d -> d[3] == 0 && due(d[0], l, hour));
                    boolean trouble = loose && free.get(l)[h] && !fence.get(l)[0];
                    sum += owner(p) ? (free.get(l)[h] ? 1 : 0) : (trouble ? 0 : 1);
                }
            }
            return sum;
        }

        int goodOfAll(boolean all) {
            int sum = 0;
            for (int p = 0; p < persons.size(); p++) {
                sum += all || persons.get(p)[4] == 0 ? good(p) : 0;
            }
            return sum;
        }

        int total(int column) {
            return persons.stream().mapToInt(p -> p[column]).sum();
        }

        int freeBits(int l) {
            return bits(24, h -> free.get(l)[h]);
        }

        int awayBits() {
            return bits(persons.size(), p -> persons.get(p)[4] > 0);
        }

        int live(int n, int seed) {
            int[] x = {seed};
            int gone = 0;
            while (gone < n && day < 400) {
                liveDay(x);
                gone++;
            }
            return gone;
        }

        private static int draw(int[] x) {
            x[0] = x[0] * 1103515245 + 12345;
            return (x[0] >>> 8) % 12;
        }

        private void liveDay(int[] x) {
            Set<Integer> had = new HashSet<>();
            for (int h = 0; h < 24; h++) {
                for (int[] dog : dogs) {
                    int l = persons.get(dog[0])[0];
                    if (dog[3] == 1 || !due(dog[0], l, h) || persons.get(dog[0])[4] > 0) {
                        continue;
                    }
                    if (!free.get(l)[h] && draw(x) >= sign) {
                        continue;
                    }
                    int who = -1;
                    for (int p = persons.size() - 1; p >= 0; p--) {
                        if (!owner(p) && due(p, l, h) && persons.get(p)[4] == 0 && !had.contains(p)) {
                            who = p;
                        }
                    }
                    if (who < 0 || fence.get(l)[0] || draw(x) < dog[1]) {
                        continue;
                    }
                    had.add(who);
                    persons.get(who)[5]++;
                    dog[4]++;
                    if (draw(x) < dog[2]) {
                        persons.get(who)[6]++;
                        dog[5]++;
                    }
                }
            }
            for (int p = 0; p < persons.size(); p++) {
                int[] q = persons.get(p);
                q[4] = had.contains(p) ? q[3] : Math.max(0, q[4] - 1);
            }
            day++;
        }

        int allow(int l, int from, int to, boolean is) {
            boolean changed = false;
            for (int h = from; h <= to; h++) {
                changed |= free.get(l)[h] != is;
                free.get(l)[h] = is;
            }
            return changed ? 0 : 1;
        }

        int hold(int d, int held) {
            if (dogs.get(d)[3] == held) {
                return held == 1 ? 1 : 2;
            }
            dogs.get(d)[3] = held;
            return 0;
        }

        int come(int p, int l, int from, int to) {
            int[] q = persons.get(p);
            if (q[0] == l && q[1] == from && q[2] == to) {
                return 1;
            }
            q[0] = l;
            q[1] = from;
            q[2] = to;
            return 0;
        }
    }

    static int bits(int n, IntPredicate is) {
        int b = 0;
        for (int i = 0; i < n; i++) {
            b |= is.test(i) ? 1 << i : 0;
        }
        return b;
    }

    private StringBuilder tape = new StringBuilder();
    private World w = new World();
    private List<World> undo = new ArrayList<>();
    private String phrase = null;
    private final World[] images = new World[2];
    private final String[] imagePhrases = new String[2];
    private int fault = 0;
    private int[] best = {-1, -1};
    private int[] parted = {};
    private int partedGood = -1;
    private String board = "";
    private int[] told = null;

    private boolean place(int l) {
        return l >= 0 && l < w.free.size();
    }

    private boolean person(int p) {
        return p >= 0 && p < w.persons.size();
    }

    private static boolean hours(int from, int to) {
        return from >= 0 && to >= from && to <= 23;
    }

    /** Answers a call by its name. */
    long call(String name, int... a) {
        switch (name) {
            case "feed": return feed(a);
            case "end": return end(a[0]);
            case "park": return park();
            case "fault": return fault;
            case "person": return personAt(a[0], a[1]);
            case "dog": return dogAt(a[0], a[1]);
            case "place": return placeAt(a[0], a[1]);
            case "now": return now(a[0]);
            case "there": return !place(a[0]) || !hours(a[1], a[1]) ? -1
                    : bits(w.persons.size(), p -> w.due(p, a[0], a[1]) && w.persons.get(p)[4] == 0);
            case "meets": return !person(a[0]) || !person(a[1]) || a[0] == a[1] ? -1
                    : bits(24, h -> w.due(a[0], w.persons.get(a[0])[0], h) && w.due(a[1], w.persons.get(a[0])[0], h));
            case "best": return best(a[0], a[1]);
            case "bestAt": return a[0] == 0 || a[0] == 1 ? best[a[0]] : -1;
            case "fences": return fences();
            case "risk": return risk(a[0], a[1]);
            case "perils": return !person(a[0]) || w.owner(a[0]) ? -1 : perils(a[0]).size();
            case "rounds": return rounds();
            case "parted": return a[0] >= 0 && a[0] < parted.length ? parted[a[0]] : -1;
            case "partedGood": return partedGood;
            case "tracks": return tracks();
            case "votes": return comers(a[0], true, false);
            case "against": return comers(a[0], false, false);
            case "missed": return comers(a[0], false, true);
            case "board": return board(a[0]);
            case "byteAt": return a[0] >= 0 && a[0] < board.length() ? board.charAt(a[0]) : -1;
            case "odds": return odds(a[0], a[1], a[2]);
            case "book": return book(a[0]);
            case "told": return told == null || a[0] < 0 || a[0] > 3 ? -1 : told[a[0]];
            case "sentence": return sentence();
            case "said": return said(a[0]);
            case "image": return image(a[0]);
            case "restore": return restore(a[0]);
            case "count": return a[0] < 0 || a[0] > 3 ? -1
                    : List.of(w.free.size(), w.persons.size(), w.dogs.size(), tape.length()).get(a[0]);
            case "undo": return undo();
            default: return act(name, a);
        }
    }

    private int feed(int[] a) {
        if (tape.length() + 20 > 940) {
            return -1;
        }
        for (int n : a) {
            tape.append((char) (n >> 24 & 255)).append((char) (n >> 16 & 255)).append((char) (n >> 8 & 255)).append((char) (n & 255));
        }
        return tape.length();
    }

    private int end(int n) {
        if (n < 0 || n > tape.length()) {
            return 0;
        }
        tape.setLength(n);
        return 1;
    }

    private String take() {
        String text = tape.toString();
        tape = new StringBuilder();
        fault = 0;
        return text;
    }

    private int park() {
        try {
            World made = new World();
            int lines = readPark(new Reader(take(), 900), made);
            w = made;
            phrase = null;
            undo.clear();
            return lines;
        } catch (Fault f) {
            fault = f.kind;
            return -1 - f.at;
        }
    }

    private static int readPark(Reader r, World m) {
        int lines = 0;
        int frees = 0;
        boolean signed = false;
        while (!r.ended()) {
            String key = r.look().broken() ? "" : r.look().text();
            if (!Set.of("place", "person", "dog", "free", "sign").contains(key)) {
                throw r.fault(1);
            }
            if (key.equals("sign") && signed) {
                throw r.fault(3);
            }
            if (key.equals("place") && m.free.size() == 5 || key.equals("person") && m.persons.size() == 8
                    || key.equals("dog") && m.dogs.size() == 6 || key.equals("free") && frees == 12) {
                throw r.fault(4);
            }
            r.next();
            if (key.equals("place")) {
                String name = r.fresh(m.names);
                boolean fenced = r.look().is("fenced");
                if (fenced) {
                    r.next();
                }
                m.names.put(name, new int[] {0, m.free.size()});
                m.placeNames.add(name);
                m.free.add(new boolean[24]);
                m.fence.add(new boolean[] {fenced});
            } else if (key.equals("person")) {
                String name = r.fresh(m.names);
                int l = r.named(m.names, 0);
                int from = r.number(0, 23);
                int to = r.number(from, 23);
                m.persons.add(new int[] {l, from, to, r.number(0, 30), 0, 0, 0});
                m.names.put(name, new int[] {1, m.persons.size() - 1});
            } else if (key.equals("dog")) {
                String name = r.fresh(m.names);
                int p = r.named(m.names, 1);
                m.dogs.add(new int[] {p, r.number(0, 12), r.number(0, 12), 0, 0, 0});
                m.names.put(name, new int[] {2, m.dogs.size() - 1});
            } else if (key.equals("free")) {
                frees++;
                int l = r.named(m.names, 0);
                int from = r.number(0, 23);
                m.allow(l, from, r.number(from, 23), true);
            } else {
                signed = true;
                m.sign = r.number(0, 12);
            }
            r.due(";");
            lines++;
        }
        return lines;
    }

    private int personAt(int p, int what) {
        if (!person(p) || what < 0 || what > 8) {
            throw new NoSuchElementException();
        }
        if (what == 7) {
            return bits(w.dogs.size(), d -> w.dogs.get(d)[0] == p);
        }
        return what == 8 ? w.good(p) : w.persons.get(p)[what];
    }

    private int dogAt(int d, int what) {
        if (d < 0 || d >= w.dogs.size() || what < 0 || what > 5) {
            throw new NoSuchElementException();
        }
        return w.dogs.get(d)[what];
    }

    private int placeAt(int l, int what) {
        if (!place(l) || what < 0 || what > 2) {
            return -1;
        }
        return what == 0 ? w.freeBits(l) : what == 1 ? (w.fence.get(l)[0] ? 1 : 0)
                : bits(w.persons.size(), p -> w.persons.get(p)[0] == l);
    }

    private int now(int what) {
        int[] all = {w.day, w.awayBits(), w.sign, w.total(5), w.total(6), w.goodOfAll(true), w.goodOfAll(false),
            bits(w.dogs.size(), d -> w.dogs.get(d)[3] == 1)};
        return what < 0 || what > 7 ? -1 : all[what];
    }

    private int act(String name, int[] a) {
        World before = w.copy();
        int answer = -1;
        boolean done = false;
        if (name.equals("allow") || name.equals("forbid")) {
            answer = place(a[0]) && hours(a[1], a[2]) ? w.allow(a[0], a[1], a[2], name.equals("allow")) : -1;
            done = answer == 0;
        } else if (name.equals("fence") && place(a[0])) {
            w.fence.get(a[0])[0] ^= true;
            answer = w.fence.get(a[0])[0] ? 1 : 0;
            done = true;
        } else if (name.equals("sign") && a[0] >= 0 && a[0] <= 12) {
            answer = w.sign == a[0] ? 1 : 0;
            w.sign = a[0];
            done = answer == 0;
        } else if (name.equals("hold") && a[0] >= 0 && a[0] < w.dogs.size() && (a[1] == 0 || a[1] == 1)) {
            answer = w.hold(a[0], a[1]);
            done = answer == 0;
        } else if (name.equals("come") && person(a[0]) && place(a[1]) && hours(a[2], a[3])) {
            answer = w.come(a[0], a[1], a[2], a[3]);
            done = answer == 0;
        } else if (name.equals("days") && a[0] >= 1 && a[0] <= 30) {
            answer = w.live(a[0], a[1]);
            done = answer > 0;
        }
        if (done) {
            keep(before);
        }
        return answer;
    }

    private void keep(World before) {
        undo.add(before);
        if (undo.size() > 8) {
            undo.remove(0);
        }
    }

    private int undo() {
        if (undo.isEmpty()) {
            return -1;
        }
        w = undo.remove(undo.size() - 1);
        return undo.size();
    }

    private int best(int l, int all) {
        if (!place(l) || all < 0 || all > 1) {
            return -1;
        }
        World t = w.copy();
        Arrays.fill(t.free.get(l), false);
        int most = t.goodOfAll(all == 1);
        best = new int[] {-1, -1};
        for (int from = 0; from < 24; from++) {
            for (int to = from; to < 24; to++) {
                Arrays.fill(t.free.get(l), false);
                Arrays.fill(t.free.get(l), from, to + 1, true);
                if (t.goodOfAll(all == 1) > most) {
                    most = t.goodOfAll(all == 1);
                    best = new int[] {from, to};
                }
            }
        }
        return most;
    }

    private int fences() {
        int found = -1;
        int most = -1;
        for (int l = 0; l < w.free.size(); l++) {
            World t = w.copy();
            t.fence.get(l)[0] = true;
            if (t.goodOfAll(true) > most) {
                most = t.goodOfAll(true);
                found = l;
            }
        }
        return found;
    }

    /** Of each peril: how many of 144 draws bring it. */
    private List<Integer> perils(int p) {
        List<Integer> found = new ArrayList<>();
        int l = w.persons.get(p)[0];
        for (int[] dog : w.dogs) {
            for (int h = 0; h < 24; h++) {
                int first = -1;
                for (int q = w.persons.size() - 1; q >= 0; q--) {
                    if (w.due(q, l, h) && !w.owner(q) && (q == p || w.persons.get(q)[4] == 0)) {
                        first = q;
                    }
                }
                if (first == p && dog[3] == 0 && !w.fence.get(l)[0] && w.due(dog[0], l, h)) {
                    found.add((w.free.get(l)[h] ? 12 : w.sign) * (12 - dog[1]));
                }
            }
        }
        return found;
    }

    private long risk(int p, int what) {
        if (!person(p) || w.owner(p) || what < 0 || what > 1 || perils(p).size() > 8) {
            throw new NoSuchElementException();
        }
        BigInteger above = BigInteger.ZERO;
        BigInteger below = BigInteger.ONE;
        for (int chance : perils(p)) {
            // a or b: a + b - ab
            BigInteger c = BigInteger.valueOf(chance);
            BigInteger d = BigInteger.valueOf(144);
            above = above.multiply(d).add(c.multiply(below)).subtract(above.multiply(c));
            below = below.multiply(d);
        }
        BigInteger g = above.gcd(below);
        return (what == 0 ? above : below).divide(g).longValueExact();
    }

    private int rounds() {
        World t = w.copy();
        int rounds = 0;
        boolean moved = true;
        while (moved && rounds < 30) {
            moved = false;
            rounds++;
            for (int[] q : t.persons) {
                int p = t.persons.indexOf(q);
                int was = q[0];
                int most = t.good(p);
                int goes = was;
                for (int l = t.free.size() - 1; l >= 0; l--) {
                    q[0] = l;
                    if (t.good(p) > most || t.good(p) == most && goes != was) {
                        most = t.good(p);
                        goes = l;
                    }
                }
                q[0] = goes;
                moved |= goes != was;
            }
        }
        parted = t.persons.stream().mapToInt(q -> q[0]).toArray();
        partedGood = t.goodOfAll(true);
        return rounds;
    }

    private int tracks() {
        String text = tape.toString();
        tape = new StringBuilder();
        if (text.isEmpty() || text.length() > 20 || text.length() % 2 == 1) {
            return -1;
        }
        for (int i = 0; i < text.length(); i += 2) {
            if (!place(text.charAt(i)) || text.charAt(i + 1) > 23) {
                return -1;
            }
        }
        return bits(w.dogs.size(), d -> {
            boolean all = true;
            for (int i = 0; i < text.length(); i += 2) {
                all &= w.due(w.dogs.get(d)[0], text.charAt(i), text.charAt(i + 1));
            }
            return all;
        });
    }

    private int comers(int l, boolean owners, boolean away) {
        return !place(l) ? -1 : Integer.bitCount(bits(w.persons.size(), p -> w.persons.get(p)[0] == l
                && w.owner(p) == owners && w.persons.get(p)[4] > 0 == away));
    }

    private int board(int l) {
        if (!place(l)) {
            return -1;
        }
        StringBuilder hours = new StringBuilder();
        for (int h = 0; h < 24; h++) {
            hours.append(w.free.get(l)[h] ? 'f' : '-');
        }
        int from = hours.indexOf("f");
        board = w.placeNames.get(l);
        if (from < 0) {
            board += " on the lead";
        } else {
            int behind = (hours + "-").indexOf("-", from);
            board += " free " + from + (behind - 1 > from ? " to " + (behind - 1) : "")
                    + (hours.lastIndexOf("f") >= behind ? " and more" : "");
        }
        return board.length();
    }

    private int odds(int p, int n, int seed) {
        if (!person(p) || n < 1 || n > 30) {
            return -1;
        }
        int found = 0;
        for (int i = 0; i < n; i++) {
            World t = w.copy();
            t.live(7, seed + i);
            found += t.persons.get(p)[5] != w.persons.get(p)[5] ? 1 : 0;
        }
        return found;
    }

    private int book(int lives) {
        if (lives != 0 && lives != 1) {
            return -1000;
        }
        List<int[]> lines;
        try {
            lines = readBook(new Reader(take(), 400));
        } catch (Fault f) {
            fault = f.kind;
            return -2 - f.at;
        }
        World before = w.copy();
        World t = w.copy();
        int why = 0;
        int good = 0;
        for (int[] line : lines) {
            why = live(t, line);
            if (why != 0) {
                break;
            }
            good++;
        }
        told = new int[] {why, good, t.day, t.awayBits()};
        if (lives == 1) {
            keep(before);
            w = t;
        }
        return why == 0 ? -1 : good;
    }

    private List<int[]> readBook(Reader r) {
        List<int[]> lines = new ArrayList<>();
        while (!r.ended()) {
            Token first = r.look();
            int[] named = first.name() ? w.names.get(first.text()) : null;
            if (first.name() && (named == null || named[0] == 0)) {
                throw r.fault(3);
            }
            if (!first.name() && (first.broken() || !Set.of("allow", "forbid", "fence", "sign", "day").contains(first.text()))) {
                throw r.fault(1);
            }
            if (lines.size() == 40) {
                throw r.fault(4);
            }
            r.next();
            if (named != null && named[0] == 2) {
                if (!r.look().is("held") && !r.look().is("loose")) {
                    throw r.fault(1);
                }
                lines.add(new int[] {'h', named[1], r.next().text().equals("held") ? 1 : 0});
            } else if (named != null) {
                r.due("comes");
                int l = r.named(w.names, 0);
                int from = r.number(0, 23);
                lines.add(new int[] {'c', named[1], l, from, r.number(from, 23)});
            } else if (first.is("sign")) {
                lines.add(new int[] {'s', r.number(0, 12)});
            } else if (first.is("day")) {
                lines.add(new int[] {'d', r.number(1, 30)});
            } else if (first.is("fence")) {
                lines.add(new int[] {'f', r.named(w.names, 0)});
            } else {
                int l = r.named(w.names, 0);
                int from = r.number(0, 23);
                lines.add(new int[] {first.is("allow") ? '+' : '-', l, from, r.number(from, 23)});
            }
            r.due(";");
        }
        return lines;
    }

    private static int live(World t, int[] a) {
        int no;
        switch (a[0]) {
            case '+': return t.allow(a[1], a[2], a[3], true);
            case '-': return t.allow(a[1], a[2], a[3], false) == 0 ? 0 : 11;
            case 'f': t.fence.get(a[1])[0] ^= true;
                return 0;
            case 's': no = t.sign == a[1] ? 21 : 0;
                t.sign = a[1];
                return no;
            case 'h': no = t.hold(a[1], a[2]);
                return no == 0 ? 0 : 30 + no;
            case 'c': return t.come(a[1], a[2], a[3], a[4]) == 0 ? 0 : 41;
            default:
                if (t.day + a[1] > 400) {
                    return 51;
                }
                t.live(a[1], a[1]);
                return 0;
        }
    }

    private int sentence() {
        String text = take();
        try {
            int[] ones = {0};
            Reader r = new Reader(text, 200);
            cond(r, 1, ones, -1);
            if (!r.ended()) {
                throw r.fault(1);
            }
            phrase = text;
            return ones[0];
        } catch (Fault f) {
            fault = f.kind;
            return -1 - f.at;
        }
    }

    /** Reads a SENTENCE and says it of p at once (p -1: of nobody). */
    private boolean cond(Reader r, int depth, int[] ones, int p) {
        boolean is = joined(r, depth, ones, p);
        while (r.look().is("or")) {
            r.next();
            is |= joined(r, depth, ones, p);
        }
        return is;
    }

    private boolean joined(Reader r, int depth, int[] ones, int p) {
        boolean is = one(r, depth, ones, p);
        while (r.look().is("and")) {
            r.next();
            is &= one(r, depth, ones, p);
        }
        return is;
    }

    private boolean one(Reader r, int depth, int[] ones, int p) {
        Set<String> first = Set.of("not", "(", "away", "owner", "meets", "at", "frights", "bites", "good", "number");
        if (r.look().broken() || !first.contains(r.look().text())) {
            throw r.fault(1);
        }
        if (ones[0] == 20 || depth == 9) {
            throw r.fault(4);
        }
        ones[0]++;
        String key = r.next().text();
        boolean is;
        switch (key) {
            case "not": return !one(r, depth + 1, ones, p);
            case "(": is = cond(r, depth + 1, ones, p);
                r.due(")");
                return is;
            case "away": return p >= 0 && w.persons.get(p)[4] > 0;
            case "owner": return p >= 0 && w.owner(p);
            case "meets": int q = r.named(w.names, 1);
                return p >= 0 && call("meets", p, q) > 0;
            case "at": int l = r.named(w.names, 0);
                return p >= 0 && w.persons.get(p)[0] == l;
            default:
                Token sign = r.look();
                if (!sign.is("<") && !sign.is("=") && !sign.is(">")) {
                    throw r.fault(1);
                }
                r.next();
                int n = r.number(0, 999);
                int value = p < 0 ? 0 : key.equals("frights") ? w.persons.get(p)[5] : key.equals("bites") ? w.persons.get(p)[6]
                        : key.equals("good") ? w.good(p) : p;
                return "<=>".indexOf(sign.text()) == 1 + Integer.compare(value, n);
        }
    }

    private int said(int k) {
        if (phrase == null) {
            return -1;
        }
        List<Integer> found = new ArrayList<>();
        for (int p = 0; p < w.persons.size(); p++) {
            if (cond(new Reader(phrase, 200), 1, new int[1], p)) {
                found.add(p);
            }
        }
        return k == -1 ? found.size() : k >= 0 && k < found.size() ? found.get(k) : -1;
    }

    private int image(int k) {
        if (k < 0 || k > 1) {
            return 0;
        }
        images[k] = w.copy();
        imagePhrases[k] = phrase;
        return 1;
    }

    private int restore(int k) {
        if (k < 0 || k > 1 || images[k] == null) {
            return 0;
        }
        w = images[k].copy();
        phrase = imagePhrases[k];
        undo.clear();
        return 1;
    }
}
