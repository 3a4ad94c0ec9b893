import java.io.IOException;
import java.lang.reflect.Array;
import java.lang.reflect.Executable;
import java.lang.reflect.Field;
import java.lang.reflect.Modifier;
import java.nio.file.Files;
import java.nio.file.Path;
import java.util.ArrayDeque;
import java.util.ArrayList;
import java.util.Collections;
import java.util.Deque;
import java.util.IdentityHashMap;
import java.util.List;
import java.util.Set;
import java.util.regex.Matcher;
import java.util.regex.Pattern;

/** The rules of LANGUAGE.md that can be seen in the source, in the classes, and by what an object holds. */
public final class LanguageTest {
    private static final String LIBRARY = "length charAt setLength append bitCount min values";
    private static final Due DUE = new Due();

    public static void main(String[] args) throws IOException, IllegalAccessException {
        List<String> written = Files.readAllLines(Path.of("src/main/java/OffTheLead.java"));
        List<String> bare = withoutTexts(written);
        imports(written);
        signs(written);
        words(bare);
        things(bare);
        methods(bare);
        classes();
        room();
        DUE.finish("LanguageTest");
    }

    /** The lines with comments and what stands between quotes taken out. */
    private static List<String> withoutTexts(List<String> lines) {
        List<String> bare = new ArrayList<>();
        for (String line : lines) {
            String code = line.replaceAll("\"[^\"]*\"", "\"\"").replaceAll("'(\\\\.|[^'])'", "' '").replaceAll("//.*", "");
            bare.add(code.trim().startsWith("/**") ? "" : code);
        }
        return bare;
    }

    private static void imports(List<String> lines) {
        for (String line : lines) {
            DUE.no("package: " + line, line.startsWith("package"));
            DUE.yes("import: " + line, !line.startsWith("import") || line.equals("import java.util.NoSuchElementException;"));
        }
    }

    private static void signs(List<String> lines) {
        for (String line : lines) {
            DUE.yes("signs of: " + line, line.chars().allMatch(c -> c >= 32 && c < 127));
        }
    }

    /** Rules 2, 6, 10 and 13: what may not be written at all, or needs no place here. */
    private static void words(List<String> bare) {
        Pattern refused = Pattern.compile("->|::|\\b(synchronized|assert|finally|try|catch|var|native|volatile|transient"
                + "|double|float|instanceof|extends|System|Thread|Random|equals|hashCode|toString|getClass|\\w+Exact)\\b");
        for (int i = 0; i < bare.size(); i++) {
            DUE.no("line " + (i + 1) + ": " + bare.get(i), refused.matcher(bare.get(i)).find());
            // texts are never joined by +
            DUE.no("line " + (i + 1) + " joins texts", bare.get(i).matches(".*(\"\" *\\+|\\+ *\"\").*"));
        }
    }

    /** Rules 6 and 12: objects are made where an object is made, or thrown. */
    private static void things(List<String> bare) {
        Pattern made = Pattern.compile("\\bnew (\\w+)");
        Pattern constructor = Pattern.compile(" +(public )?(OffTheLead|Park|History)\\(\\) \\{");
        boolean making = false;
        int depth = 0;
        for (int i = 0; i < bare.size(); i++) {
            String line = bare.get(i);
            if (constructor.matcher(line).matches()) {
                making = true;
                depth = indent(line);
            } else if (making && line.trim().equals("}") && indent(line) == depth) {
                making = false;
            }
            Matcher m = made.matcher(line);
            if (m.find()) {
                boolean thrown = line.endsWith("throw new NoSuchElementException();");
                boolean field = line.trim().startsWith("private final ");
                DUE.yes("line " + (i + 1) + " makes: " + line, thrown && !making || field || making && !thrown);
            }
            DUE.no("line " + (i + 1) + " throws: " + line, line.contains("throw ") && !line.contains("throw new "));
        }
    }

    private static int indent(String line) {
        return line.length() - line.stripLeading().length();
    }

    /** Rule 11: methods stay short; rule 4: they call their own, or what the rules list. */
    private static void methods(List<String> bare) {
        Pattern head = Pattern.compile(" +[\\w ]*?(\\w+)\\(([^()]*)\\)( throws NoSuchElementException)? \\{");
        List<String> own = new ArrayList<>();
        int from = -1;
        for (int i = 0; i < bare.size(); i++) {
            String line = bare.get(i);
            Matcher m = head.matcher(line);
            if (m.matches() && !Set.of("if", "for", "while", "switch").contains(m.group(1))) {
                own.add(m.group(1));
                from = i;
            } else if (from >= 0 && line.trim().equals("}") && indent(line) == indent(bare.get(from))) {
                DUE.yes("lines of " + bare.get(from), i - from < 60);
                from = -1;
            }
        }
        DUE.yes("methods are found: " + own.size(), own.size() > 100);
        Matcher called = Pattern.compile("(?:new )?\\b([a-zA-Z]\\w*)\\(").matcher(String.join("\n", bare));
        while (called.find()) {
            String name = called.group(1);
            boolean known = own.contains(name) || List.of(LIBRARY.split(" ")).contains(name)
                    || called.group().startsWith("new ") || name.equals(name.toUpperCase());
            DUE.yes("calls " + name, known);
        }
    }

    /** Rules 1, 2, 5 and 11: how many classes and fields there are, and of what kind. */
    private static void classes() {
        List<Class<?>> all = new ArrayList<>(List.of(OffTheLead.class.getDeclaredClasses()));
        all.add(OffTheLead.class);
        DUE.yes("classes: " + all.size(), all.size() <= 12);
        for (Class<?> c : all) {
            int fields = 0;
            for (Field f : c.getDeclaredFields()) {
                boolean fixed = Modifier.isStatic(f.getModifiers());
                fields += fixed ? 0 : 1;
                DUE.yes("static " + f, !fixed || Modifier.isFinal(f.getModifiers()));
                DUE.yes("kind of static " + f, !fixed || f.getType() == int.class || c.isEnum());
            }
            DUE.yes("fields of " + c + ": " + fields, fields <= 20);
            for (Executable m : c.getDeclaredMethods()) {
                DUE.yes("parameters of " + m, m.getParameterCount() <= 7);
            }
            DUE.is("classes inside " + c, c == OffTheLead.class ? 0 : c.getDeclaredClasses().length, 0);
        }
    }

    /** The room: an object holds some 300 objects and 4,000 fields and elements, and no more after many calls. */
    private static void room() throws IllegalAccessException {
        OffTheLead x = new OffTheLead();
        int[] atFirst = held(x);
        DUE.yes("objects: " + atFirst[0], atFirst[0] < 400);
        DUE.yes("fields and elements: " + atFirst[1], atFirst[1] < 6000);
        Due.park(x, "place lawn;place pond;free lawn 0 23;person ada lawn 0 23 1;person ben lawn 0 23 1;dog rex ben 0 12;");
        for (int i = 0; i < 20; i++) {
            Due.book(x, "day 3;sign " + i % 10 + ";", 1);
            Due.sentence(x, "not (away or owner)");
            x.said(-1);
            x.fence(0);
            x.board(0);
            x.best(0, 1);
            x.odds(0, 30, i);
            x.rounds();
            x.perils(0);
            x.image(i % 2);
            x.fences();
        }
        int[] later = held(x);
        DUE.is("objects later", later[0], atFirst[0]);
        DUE.is("fields and elements later", later[1], atFirst[1]);
    }

    private static int[] held(Object first) throws IllegalAccessException {
        Set<Object> seen = Collections.newSetFromMap(new IdentityHashMap<>());
        Deque<Object> open = new ArrayDeque<>(List.of(first));
        int elements = 0;
        while (!open.isEmpty()) {
            Object one = open.pop();
            if (!seen.add(one)) {
                continue;
            }
            if (one.getClass().isArray()) {
                elements += Array.getLength(one);
                for (int i = 0; i < Array.getLength(one) && one instanceof Object[]; i++) {
                    if (Array.get(one, i) != null) {
                        open.push(Array.get(one, i));
                    }
                }
                continue;
            }
            if (one.getClass().getEnclosingClass() != OffTheLead.class && one.getClass() != OffTheLead.class
                    || one.getClass().isEnum()) {
                continue;
            }
            for (Field f : one.getClass().getDeclaredFields()) {
                if (!Modifier.isStatic(f.getModifiers())) {
                    elements++;
                    f.setAccessible(true);
                    if (!f.getType().isPrimitive() && f.get(one) != null) {
                        open.push(f.get(one));
                    }
                }
            }
        }
        seen.removeIf(one -> one instanceof Enum);
        return new int[] {seen.size(), elements};
    }
}
