import java.lang.reflect.Constructor;
import java.lang.reflect.Field;
import java.lang.reflect.Method;
import java.lang.reflect.Modifier;
import java.util.Arrays;
import java.util.Set;
import java.util.TreeSet;

/** The public face, as the document and rule 1 of LANGUAGE.md tell it. */
public final class FaceTest {
    private static final String FACE = "int feed(int,int,int,int,int);boolean end(int);int park();int fault();"
            + "int person(int,int);int dog(int,int);int place(int,int);int now(int);int allow(int,int,int);"
            + "int forbid(int,int,int);int fence(int);int sign(int);int hold(int,int);int come(int,int,int,int);"
            + "int days(int,int);int undo();int there(int,int);int meets(int,int);int best(int,int);int bestAt(int);"
            + "int fences();long risk(int,int);int perils(int);int rounds();int parted(int);int partedGood();"
            + "int tracks();int votes(int);int against(int);int missed(int);int board(int);int byteAt(int);"
            + "int odds(int,int,int);int book(int);int told(int);int sentence();int said(int);boolean image(int);"
            + "boolean restore(int);int count(int)";

    public static void main(String[] args) {
        Due due = new Due();
        Set<String> face = new TreeSet<>(Arrays.asList(FACE.split(";")));
        due.is("methods of the document", face.size(), 40);
        Set<String> names = new TreeSet<>();
        Set<String> found = new TreeSet<>();
        for (Method m : OffTheLead.class.getDeclaredMethods()) {
            if (Modifier.isPrivate(m.getModifiers()) || m.isSynthetic()) {
                continue;
            }
            StringBuilder text = new StringBuilder(m.getReturnType() + " " + m.getName() + "(");
            for (Class<?> c : m.getParameterTypes()) {
                text.append(text.charAt(text.length() - 1) == '(' ? "" : ",").append(c);
            }
            found.add(text.append(")").toString());
            names.add(m.getName());
            due.yes("public " + m.getName(), Modifier.isPublic(m.getModifiers()));
            boolean mayThrow = Set.of("person", "dog", "risk").contains(m.getName());
            due.is("throws " + m.getName(), m.getExceptionTypes().length, mayThrow ? 1 : 0);
        }
        due.yes("the face is " + found, found.equals(face));
        for (Method m : OffTheLead.class.getDeclaredMethods()) {
            if (Modifier.isPrivate(m.getModifiers())) {
                due.no("private " + m.getName(), names.contains(m.getName()));
            }
        }
        for (Field f : OffTheLead.class.getDeclaredFields()) {
            due.yes("field " + f.getName(), Modifier.isPrivate(f.getModifiers()) || f.getName().equals("NONE"));
            due.yes("static " + f.getName(), !Modifier.isStatic(f.getModifiers()) || Modifier.isFinal(f.getModifiers()));
        }
        Constructor<?>[] made = OffTheLead.class.getDeclaredConstructors();
        due.is("constructors", made.length, 1);
        due.yes("public constructor", Modifier.isPublic(made[0].getModifiers()) && made[0].getParameterCount() == 0);
        due.yes("final", Modifier.isFinal(OffTheLead.class.getModifiers()));
        for (Class<?> c : OffTheLead.class.getDeclaredClasses()) {
            due.yes("class " + c.getSimpleName(), Modifier.isStatic(c.getModifiers()) && !Modifier.isPublic(c.getModifiers()));
            for (Method m : c.getDeclaredMethods()) {
                if (Modifier.isPrivate(m.getModifiers())) {
                    due.no("private " + c.getSimpleName() + "." + m.getName(), names.contains(m.getName()));
                }
            }
        }
        due.finish("FaceTest");
    }
}
