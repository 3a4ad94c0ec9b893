import java.lang.reflect.InvocationTargetException;
import java.lang.reflect.Method;
import java.util.ArrayList;
import java.util.Arrays;
import java.util.List;
import java.util.NoSuchElementException;
import java.util.Random;

/** Runs of calls by chance: each answer is as Model's, and nothing is thrown but what the document names. */
public final class StrayTest {
    private static final long NO_SUCH = Long.MIN_VALUE;
    private static final String[] PLACES = {"lawn", "pond", "hill", "a", "abcdefg", "shed"};
    private static final String[] PERSONS = {"ada", "ben", "cleo", "dora", "eve", "fay", "gus", "hal", "ida"};
    private static final String[] DOGS = {"rex", "flop", "bo", "wuff", "kim", "tan", "zoe"};
    private static final String[] STRAY = {"place", "fenced", "person", "dog", "free", "sign", "allow", "forbid", "fence", "held",
        "loose", "comes", "day", "or", "and", "not", "away", "owner", "meets", "at", "frights", "bites", "good", "number",
        ";", "<", "=", ">", "(", ")", ".", "abcdefgh", "1234", "12a", "A", "\t", "0", "12", "23", "24", "30", "31", "x"};

    private final Random random;
    private final OffTheLead x = new OffTheLead();
    private final Model model = new Model();
    private final List<String> calls = new ArrayList<>();
    private int wrong = 0;

    private StrayTest(long seed) {
        random = new Random(seed);
    }

    public static void main(String[] args) throws ReflectiveOperationException {
        int runs = args.length > 0 ? Integer.parseInt(args[0]) : 400;
        long first = args.length > 1 ? Long.parseLong(args[1]) : 1;
        long asked = 0;
        for (long seed = first; seed < first + runs; seed++) {
            StrayTest test = new StrayTest(seed);
            test.run();
            asked += test.calls.size();
            if (test.wrong > 0) {
                System.out.println("seed " + seed + "; the calls: " + test.calls);
                System.exit(1);
            }
        }
        System.out.println("StrayTest: " + asked + " answers in " + runs + " runs, 0 not as due");
    }

    private void run() throws ReflectiveOperationException {
        Method[] methods = OffTheLead.class.getMethods();
        Arrays.sort(methods, (m, n) -> m.getName().compareTo(n.getName()));
        List<Method> face = new ArrayList<>();
        for (Method m : methods) {
            if (m.getDeclaringClass() == OffTheLead.class) {
                face.add(m);
            }
        }
        boolean lost = random.nextInt(10) == 0;
        // a text takes 51 calls at most, and no object has more than 512
        while (calls.size() < 460 && wrong == 0) {
            int kind = random.nextInt(lost ? 3 : 24);
            if (calls.isEmpty() || kind == 0 && random.nextInt(8) == 0) {
                give(park(), "park");
            } else if (kind == 1) {
                give(book(), "book", random.nextInt(10) == 0 ? random.nextInt(4) - 1 : random.nextInt(2));
            } else if (kind == 2) {
                give(sentence(), "sentence");
            } else if (kind == 3) {
                give(tracks(), "tracks");
            } else if (kind == 4) {
                ask("days", random.nextInt(31), random.nextInt());
            } else {
                Method m = face.get(random.nextInt(face.size()));
                int[] args = new int[m.getParameterCount()];
                for (int i = 0; i < args.length; i++) {
                    args[i] = number();
                }
                boolean destroys = m.getName().equals("park") || m.getName().equals("feed") || m.getName().equals("restore");
                if (!destroys || random.nextInt(8) == 0) {
                    ask(m.getName(), args);
                }
            }
        }
    }

    private int number() {
        int kind = random.nextInt(20);
        if (kind == 0) {
            return random.nextInt();
        }
        return kind < 14 ? random.nextInt(7) : kind == 14 ? -1 : random.nextInt(26);
    }

    private void give(String text, String call, int... args) throws ReflectiveOperationException {
        ask("end", 0);
        String fits = text.length() > 940 ? text.substring(0, 940) : text;
        for (int i = 0; i < fits.length(); i += 20) {
            int[] numbers = new int[5];
            for (int j = 0; j < 20; j++) {
                int c = i + j < fits.length() ? fits.charAt(i + j) : 0;
                numbers[j / 4] = numbers[j / 4] << 8 | c & 255;
            }
            ask("feed", numbers);
        }
        ask("end", fits.length());
        ask(call, args);
        ask("fault");
    }

    private void ask(String name, int... args) throws ReflectiveOperationException {
        calls.add(name + Arrays.toString(args));
        Class<?>[] types = new Class<?>[args.length];
        Arrays.fill(types, int.class);
        Object[] boxed = Arrays.stream(args).boxed().toArray();
        long got;
        try {
            Object answer = OffTheLead.class.getMethod(name, types).invoke(x, boxed);
            got = answer instanceof Boolean ? ((Boolean) answer ? 1 : 0) : ((Number) answer).longValue();
        } catch (InvocationTargetException e) {
            if (!(e.getCause() instanceof NoSuchElementException)) {
                e.getCause().printStackTrace(System.out);
            }
            got = e.getCause() instanceof NoSuchElementException ? NO_SUCH : NO_SUCH + 1;
        }
        long want;
        try {
            want = model.call(name, args);
        } catch (NoSuchElementException e) {
            want = NO_SUCH;
        }
        if (got != want) {
            wrong++;
            System.out.println(name + Arrays.toString(args) + " answered " + got + ", due is " + want);
        }
    }

    private String any(String[] words) {
        return words[random.nextInt(words.length)];
    }

    private String hours() {
        int from = random.nextInt(24);
        int to = from + random.nextInt(Math.min(24 - from, 8));
        return " " + from + " " + to;
    }

    private String park() {
        StringBuilder text = new StringBuilder();
        int places = 1 + random.nextInt(4);
        int persons = 1 + random.nextInt(8);
        int dogs = random.nextInt(7);
        for (int l = 0; l < places; l++) {
            text.append("place ").append(PLACES[l]).append(random.nextInt(4) == 0 ? " fenced;" : ";");
        }
        for (int p = 0; p < persons; p++) {
            text.append("person ").append(PERSONS[p]).append(" ").append(PLACES[random.nextInt(places)]).append(hours())
                    .append(" ").append(random.nextInt(31)).append(";");
        }
        for (int d = 0; d < dogs; d++) {
            text.append("dog ").append(DOGS[d]).append(" ").append(PERSONS[random.nextInt(persons)]).append(" ")
                    .append(random.nextInt(13)).append(" ").append(random.nextInt(13)).append(";");
        }
        for (int f = random.nextInt(13); f > 0; f--) {
            text.append("free ").append(PLACES[random.nextInt(places)]).append(hours()).append(";");
        }
        if (random.nextBoolean()) {
            text.append("sign ").append(random.nextInt(13)).append(";");
        }
        return random.nextInt(5) == 0 ? spoil(text.toString()) : text.toString();
    }

    private String book() {
        StringBuilder text = new StringBuilder();
        for (int i = random.nextInt(random.nextInt(6) == 0 ? 45 : 6); i > 0; i--) {
            int kind = random.nextInt(6);
            if (kind == 0) {
                text.append(random.nextBoolean() ? "allow " : "forbid ").append(any(PLACES)).append(hours()).append(";");
            } else if (kind == 1) {
                text.append("fence ").append(PLACES[random.nextInt(2)]).append(";");
            } else if (kind == 2) {
                text.append("sign ").append(random.nextInt(13)).append(";");
            } else if (kind == 3) {
                text.append(DOGS[random.nextInt(3)]).append(random.nextBoolean() ? " held;" : " loose;");
            } else if (kind == 4) {
                text.append(PERSONS[random.nextInt(4)]).append(" comes ").append(any(PLACES)).append(hours()).append(";");
            } else {
                text.append("day ").append(1 + random.nextInt(30)).append(";");
            }
        }
        return random.nextInt(4) == 0 ? spoil(text.toString()) : text.toString();
    }

    private String sentence() {
        StringBuilder text = new StringBuilder();
        cond(text, random.nextInt(random.nextInt(4) == 0 ? 12 : 4));
        return random.nextInt(4) == 0 ? spoil(text.toString()) : text.toString();
    }

    private void cond(StringBuilder text, int depth) {
        for (int i = random.nextInt(3); i > 0 && depth > 0; i--) {
            one(text, depth);
            text.append(random.nextBoolean() ? " or " : " and ");
        }
        one(text, depth);
    }

    private void one(StringBuilder text, int depth) {
        int kind = random.nextInt(depth > 0 ? 8 : 5);
        if (kind == 0) {
            text.append("away");
        } else if (kind == 1) {
            text.append("owner");
        } else if (kind == 2) {
            text.append("meets ").append(PERSONS[random.nextInt(3)]);
        } else if (kind == 3) {
            text.append("at ").append(PLACES[random.nextInt(2)]);
        } else if (kind == 4) {
            text.append(any(new String[] {"frights", "bites", "good", "number"})).append(any(new String[] {"<", "=", ">"}))
                    .append(random.nextInt(5));
        } else if (kind == 5) {
            text.append("(");
            cond(text, depth - 1);
            text.append(")");
        } else {
            text.append("not ");
            one(text, depth - 1);
        }
    }

    private String tracks() {
        StringBuilder text = new StringBuilder();
        for (int i = random.nextInt(random.nextInt(5) == 0 ? 23 : 3) * (random.nextInt(5) == 0 ? 1 : 2); i > 0; i--) {
            text.append((char) (i % 2 == 0 ? random.nextInt(3) : random.nextInt(25)));
        }
        return text.toString();
    }

    /** Another TOKEN somewhere, one less, a part cut off, or many blanks. */
    private String spoil(String text) {
        int at = random.nextInt(text.length() + 1);
        int kind = random.nextInt(5);
        if (kind == 0) {
            return text.substring(0, at);
        }
        if (kind == 1) {
            return text.substring(0, at) + " ".repeat(random.nextInt(900)) + text.substring(at);
        }
        String[] parts = text.split("(?=[ ;()<=>])");
        int i = random.nextInt(parts.length);
        parts[i] = kind == 2 ? "" : kind == 3 ? " " + any(STRAY) : parts[i] + " " + any(PLACES);
        return String.join("", parts);
    }
}
