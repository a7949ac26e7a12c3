import java.lang.reflect.Constructor;
import java.lang.reflect.Field;
import java.lang.reflect.Method;
import java.lang.reflect.Modifier;
import java.util.ArrayList;
import java.util.Arrays;
import java.util.List;

/** The public face: all of it, nothing more, and no private method of the same name. */
public final class FaceTest {
    private static final String[] FACE = {
        "int record int int", "int scratch int int int", "int type int", "int wipe", "int fault", "int undo",
        "int set int int", "int read int", "int plays int", "int groove int int", "int loops int",
        "int wax int int", "int coin int int", "int at int", "int served int int", "int night int int", "int best",
        "int times int", "int first", "int ask int int int int", "int stuck int int", "int heard int int",
        "int forget", "int laws", "long next int int", "int since int", "int sheet int int int", "int lose int",
        "int lay int int int int", "int get int int int", "int copy int int int int int", "int write int",
        "int count int", "long digest"};

    public static void main(String[] args) {
        Check check = new Check("face");
        check.due("NONE", ThirdFavour.NONE, -1);
        check.due("BAD", ThirdFavour.BAD, -2);
        check.due("NOT", ThirdFavour.NOT, -3);
        check.due("FULL", ThirdFavour.FULL, -4);
        check.holds("public and final", Modifier.isPublic(ThirdFavour.class.getModifiers())
            && Modifier.isFinal(ThirdFavour.class.getModifiers()));
        methods(check);
        fields(check);
        Constructor<?>[] made = ThirdFavour.class.getDeclaredConstructors();
        check.holds("one public constructor without arguments", made.length == 1
            && Modifier.isPublic(made[0].getModifiers()) && made[0].getParameterCount() == 0);
        for (Class<?> inside : ThirdFavour.class.getDeclaredClasses()) {
            check.holds(inside + " is static and not public", Modifier.isStatic(inside.getModifiers())
                && !Modifier.isPublic(inside.getModifiers()) && !Modifier.isProtected(inside.getModifiers()));
            for (Method m : inside.getDeclaredMethods()) {
                check.holds(m + " has a name of its own", !isOfFace(m.getName()));
            }
        }
        check.end();
    }

    private static boolean isOfFace(String name) {
        for (String told : FACE) {
            if (told.split(" ")[1].equals(name)) {
                return true;
            }
        }
        return false;
    }

    private static void methods(Check check) {
        List<String> found = new ArrayList<>();
        for (Method m : ThirdFavour.class.getDeclaredMethods()) {
            if (Modifier.isPublic(m.getModifiers())) {
                StringBuilder told = new StringBuilder(m.getReturnType() + " " + m.getName());
                for (Class<?> p : m.getParameterTypes()) {
                    told.append(" ").append(p);
                }
                found.add(told.toString());
            }
        }
        check.holds("all methods of the face", found.containsAll(Arrays.asList(FACE)));
        check.due("methods", found.size(), FACE.length);
        for (Method m : ThirdFavour.class.getDeclaredMethods()) {
            if (!Modifier.isPublic(m.getModifiers())) {
                check.holds(m + " is private", Modifier.isPrivate(m.getModifiers()));
                check.holds(m + " has a name of its own", !isOfFace(m.getName()));
                check.holds(m + " has seven parameters at most", m.getParameterCount() <= 7);
            }
        }
    }

    private static void fields(Check check) {
        int open = 0;
        int ofObject = 0;
        for (Field f : ThirdFavour.class.getDeclaredFields()) {
            boolean isStatic = Modifier.isStatic(f.getModifiers());
            open += Modifier.isPublic(f.getModifiers()) ? 1 : 0;
            ofObject += isStatic ? 0 : 1;
            check.holds(f + " is private or of the face", Modifier.isPrivate(f.getModifiers())
                || Modifier.isPublic(f.getModifiers()) && isStatic);
            check.holds(f + " is final if static", !isStatic || Modifier.isFinal(f.getModifiers()));
        }
        check.due("constants of the face", open, 4);
        check.holds("some twenty fields at most", ofObject <= 20);
    }
}
