import java.lang.reflect.Constructor;
import java.lang.reflect.Field;
import java.lang.reflect.Method;
import java.lang.reflect.Modifier;
import java.util.ArrayList;
import java.util.Arrays;
import java.util.List;
import java.util.Set;
import java.util.TreeSet;

/** The public face is that of the document, and nothing more is to be seen from outside. */
public final class FaceTest {
    private static final String[] FACE = {
        "int addShaft(int,int) IAE ISE",
        "int move(int,int,int) IOB IAE",
        "int addGear(int,int,int,int,boolean) IOB IAE ISE",
        "int mesh(int,int) IOB IAE ISE",
        "int unmesh() ISE",
        "int addPlanets(int,int,int,int,int) IOB IAE ISE",
        "int planets(int,int) IOB IAE",
        "int count(int) IOB",
        "int drive(int,int) IOB IAE",
        "boolean hold(int,boolean) IOB ISE",
        "boolean isTold(int) IOB",
        "int speed(int,boolean) IOB ISE",
        "int stage(int) IOB",
        "double ratio(int,int) IOB ISE",
        "int broken(boolean)",
        "int free()",
        "long torque(int,int) IOB IAE ISE",
        "int distance(int) IOB",
        "int misfits()",
        "int collisions()",
        "int suggest(int,int,int,int) IAE",
        "long digest()",
    };

    public static void main(String[] args) {
        Class<GearTrains> face = GearTrains.class;
        Check.same("the class is public and final", face.getModifiers(),
                Modifier.PUBLIC | Modifier.FINAL);
        Check.same("it has no interfaces", face.getInterfaces().length, 0);
        Check.same("it extends Object", face.getSuperclass() == Object.class, true);
        Constructor<?>[] makers = face.getDeclaredConstructors();
        Check.same("one constructor", makers.length, 1);
        Check.same("without parameters", makers[0].getParameterCount(), 0);
        Check.same("which is public", makers[0].getModifiers(), Modifier.PUBLIC);

        Set<String> seen = new TreeSet<>();
        List<String> publicNames = new ArrayList<>();
        for (Method method : face.getDeclaredMethods()) {
            if (!Modifier.isPrivate(method.getModifiers())) {
                seen.add(told(method));
                publicNames.add(method.getName());
                Check.same(method + " is public only", method.getModifiers(), Modifier.PUBLIC);
            }
        }
        Check.same("the methods", seen.toString(),
                new TreeSet<>(Arrays.asList(FACE)).toString());
        for (Field field : face.getDeclaredFields()) {
            Check.same(field + " is private", Modifier.isPrivate(field.getModifiers()), true);
        }
        hiddenNames(face, publicNames);
        for (Class<?> inside : face.getDeclaredClasses()) {
            Check.same(inside + " is private and static", inside.getModifiers()
                    & (Modifier.PRIVATE | Modifier.STATIC), Modifier.PRIVATE | Modifier.STATIC);
            hiddenNames(inside, publicNames);
        }
        Check.end();
    }

    /** No method that is hidden bears the name of a public one of the face. */
    private static void hiddenNames(Class<?> holder, List<String> publicNames) {
        for (Method method : holder.getDeclaredMethods()) {
            if (!Modifier.isPublic(method.getModifiers())) {
                Check.same(method + " has a name of its own",
                        publicNames.contains(method.getName()), false);
            }
        }
    }

    private static String told(Method method) {
        StringBuilder text = new StringBuilder();
        text.append(method.getReturnType().getName()).append(' ').append(method.getName());
        text.append('(');
        String comma = "";
        for (Class<?> type : method.getParameterTypes()) {
            text.append(comma).append(type.getName());
            comma = ",";
        }
        text.append(')');
        for (Class<?> type : method.getExceptionTypes()) {
            text.append(' ').append(Check.shortName(type));
        }
        return text.toString();
    }
}
