import java.lang.reflect.Constructor;
import java.lang.reflect.Field;
import java.lang.reflect.Method;
import java.lang.reflect.Modifier;
import java.util.ArrayList;
import java.util.Arrays;
import java.util.List;
import java.util.TreeSet;

/** The public face is the document's, and nothing else of the class can be seen from outside. */
public final class FaceTest {
    private static final String[] METHODS = {
        "int make(int,int)", "int set(int,int)", "int grow()", "int steps(int)", "boolean crash()", "int read(int)",
        "int write(int,int)", "int fill(int,int,int)", "boolean lose(int)", "int replace()", "boolean bad(int,int)",
        "int ask(boolean,int,int,int)", "int tick(int)", "int served(int,int)", "int request(int,int)",
        "boolean poke(int,int,int)", "int scrub(int)", "int repair()", "int forecast(int)", "boolean image(int)",
        "boolean back(int)", "int feed(long,long,long)", "int end(int)", "int script()", "int laid(int)", "int of(int,int)",
        "int word(int,int)", "int badAt(int)", "int spoilt()", "int exposed(int)", "int batch(int)", "int count(int)"};

    private FaceTest() {
    }

    public static void main(String[] args) throws Exception {
        Check.part("face");
        Check.yes("public final", Modifier.isPublic(GrowHouse.class.getModifiers()) && Modifier.isFinal(GrowHouse.class.getModifiers()));
        TreeSet<String> seen = new TreeSet<>();
        List<String> names = new ArrayList<>();
        for (Method method : GrowHouse.class.getDeclaredMethods()) {
            if (!Modifier.isPrivate(method.getModifiers()) && !method.isSynthetic()) {
                seen.add(told(method));
                names.add(method.getName());
                Check.yes(method + " is public, not static",
                    Modifier.isPublic(method.getModifiers()) && !Modifier.isStatic(method.getModifiers()));
                boolean may = List.of("read", "served", "word").contains(method.getName());
                Check.is(method + " throws", method.getExceptionTypes().length, may ? 1 : 0);
            }
        }
        TreeSet<String> due = new TreeSet<>(Arrays.asList(METHODS));
        Check.yes("methods " + seen + ", due " + due, seen.equals(due));
        for (Method method : GrowHouse.class.getDeclaredMethods()) {
            Check.no(method + " bears a public name",
                Modifier.isPrivate(method.getModifiers()) && names.contains(method.getName()));
        }
        Constructor<?>[] constructors = GrowHouse.class.getDeclaredConstructors();
        Check.is("constructors", constructors.length, 1);
        Check.yes("public, without parameters",
            Modifier.isPublic(constructors[0].getModifiers()) && constructors[0].getParameterCount() == 0);
        for (Field field : GrowHouse.class.getDeclaredFields()) {
            boolean none = field.getName().equals("NONE");
            Check.yes(field + " is private, NONE public", Modifier.isPrivate(field.getModifiers()) != none || field.isSynthetic());
        }
        Field none = GrowHouse.class.getField("NONE");
        Check.yes("NONE is a constant", Modifier.isStatic(none.getModifiers()) && Modifier.isFinal(none.getModifiers()));
        Check.is("NONE", none.getInt(null), -1);
        for (Class<?> inside : GrowHouse.class.getDeclaredClasses()) {
            Check.yes(inside + " is private, static",
                Modifier.isPrivate(inside.getModifiers()) && Modifier.isStatic(inside.getModifiers()));
        }
        Check.end("FaceTest");
    }

    private static String told(Method method) {
        StringBuilder text = new StringBuilder(method.getReturnType() + " " + method.getName() + "(");
        for (Class<?> type : method.getParameterTypes()) {
            text.append(text.charAt(text.length() - 1) == '(' ? "" : ",").append(type);
        }
        return text.append(")").toString();
    }
}
