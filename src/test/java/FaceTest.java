import java.lang.reflect.Constructor;
import java.lang.reflect.Field;
import java.lang.reflect.Method;
import java.lang.reflect.Modifier;
import java.util.Set;
import java.util.TreeSet;

/** The class has the document's face, and no other member that is seen from outside. */
public final class FaceTest {
    private static final String[] METHODS = {
        "int measure(int)", "int measureAll()", "int base(int,int)", "int saint(int,int,int,int)",
        "int strike(int)", "int set(int,int)", "int bet(int,boolean,int)", "int takeBack(int)",
        "int type(char)", "int clearText()", "int fault()", "int undo()", "int keep()",
        "int restore()", "int dayOf(int,int)", "int past(int,int,int)", "int mean(int,int,int)",
        "int saintOf(int,int)", "int readerOf(int,int)", "int count(int)", "float meanMistake()",
        "int nextBase(int)", "int bestBound(int)", "int bestRate(int)", "int ifMeasured(int,int)"
    };

    public static void main(String[] args) throws Exception {
        Due due = new Due();
        due.at("face");
        due.holds("the class is public and final",
                MistakeAlmanac.class.getModifiers() == (Modifier.PUBLIC | Modifier.FINAL));
        due.holds("the methods are those of the document: " + seenMethods(),
                seenMethods().equals(new TreeSet<>(Set.of(METHODS))));
        due.holds("the fields are the five constants: " + seenFields(),
                seenFields().equals(new TreeSet<>(
                        Set.of("UNKNOWN", "BAD_VALUE", "FULL", "NOT_POSSIBLE", "NONE"))));
        Constructor<?>[] constructors = MistakeAlmanac.class.getDeclaredConstructors();
        due.is("constructors", constructors.length, 1);
        due.is("its parameters", constructors[0].getParameterCount(), 0);
        due.holds("it is public", Modifier.isPublic(constructors[0].getModifiers()));
        due.is("UNKNOWN", MistakeAlmanac.UNKNOWN, -1);
        due.is("BAD_VALUE", MistakeAlmanac.BAD_VALUE, -2);
        due.is("FULL", MistakeAlmanac.FULL, -3);
        due.is("NOT_POSSIBLE", MistakeAlmanac.NOT_POSSIBLE, -4);
        due.is("NONE", MistakeAlmanac.NONE, -5);
        checkInside(due);
        due.end("FaceTest");
    }

    private static void checkInside(Due due) {
        Class<?>[] inside = MistakeAlmanac.class.getDeclaredClasses();
        due.holds("at most twelve classes", inside.length < 12);
        for (Class<?> one : inside) {
            due.holds(one.getName() + " is static", Modifier.isStatic(one.getModifiers()));
            due.holds(one.getName() + " is not public or protected",
                    (one.getModifiers() & (Modifier.PUBLIC | Modifier.PROTECTED)) == 0);
        }
        Set<String> publicNames = new TreeSet<>();
        for (String method : METHODS) {
            publicNames.add(method.replaceAll("^\\w+ |\\(.*", ""));
        }
        for (Method method : MistakeAlmanac.class.getDeclaredMethods()) {
            due.holds("private " + method.getName() + " does not bear a public name",
                    Modifier.isPublic(method.getModifiers()) || !publicNames.contains(method.getName()));
        }
    }

    private static Set<String> seenMethods() {
        Set<String> seen = new TreeSet<>();
        for (Method method : MistakeAlmanac.class.getDeclaredMethods()) {
            if (Modifier.isPrivate(method.getModifiers()) || method.isSynthetic()) {
                continue;
            }
            StringBuilder line = new StringBuilder(Modifier.isPublic(method.getModifiers()) ? "" : "hidden ");
            line.append(Modifier.isStatic(method.getModifiers()) ? "static " : "");
            line.append(method.getReturnType()).append(' ').append(method.getName()).append('(');
            Class<?>[] parameters = method.getParameterTypes();
            for (int i = 0; i < parameters.length; i++) {
                line.append(i == 0 ? "" : ",").append(parameters[i]);
            }
            seen.add(line.append(')').toString());
        }
        return seen;
    }

    private static Set<String> seenFields() {
        Set<String> seen = new TreeSet<>();
        for (Field field : MistakeAlmanac.class.getDeclaredFields()) {
            if (Modifier.isPrivate(field.getModifiers()) || field.isSynthetic()) {
                continue;
            }
            boolean constant = field.getType() == int.class
                    && field.getModifiers() == (Modifier.PUBLIC | Modifier.STATIC | Modifier.FINAL);
            seen.add((constant ? "" : "no constant: ") + field.getName());
        }
        return seen;
    }
}
