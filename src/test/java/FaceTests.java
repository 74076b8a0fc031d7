import java.lang.reflect.Constructor;
import java.lang.reflect.Field;
import java.lang.reflect.Method;
import java.lang.reflect.Modifier;
import java.util.Set;
import java.util.TreeSet;

/** The class has the face of the document, and no other member that can be seen; its names are not used twice. */
public final class FaceTests {
    private static final String[] FACE = {
        "int addGun(int,int)", "int setTrap(int,int,int)", "int rest(int)", "int pass(int)", "int shootOff()",
        "int turn()", "int angle(int,int)", "int hardestClay(int)", "int standOf(int)", "int angleFor(int)",
        "int guns()", "int scoreOf(int)", "int firstsOf(int)", "int missesOf(int)", "int fatigueOf(int)",
        "int wouldHit(int)", "int leader()", "int tied()", "int rankOf(int)", "int scoreIn(int,int)",
        "int turnsUntilMiss(int)", "int leaderIn(int)", "int wouldWin()", "int bestRest(int)", "int swingWanted(int)",
        "double meanScore()", "long digest()"};

    private static int wrong = 0;

    public static void main(String[] args) {
        Set<String> seen = new TreeSet<>();
        Set<String> names = new TreeSet<>();
        for (Method method : ClayTraps.class.getDeclaredMethods()) {
            if (!Modifier.isPrivate(method.getModifiers())) {
                seen.add(told(method));
                names.add(method.getName());
                check(method.getName() + " is public", Modifier.isPublic(method.getModifiers()));
                check(method.getName() + " is no static one", !Modifier.isStatic(method.getModifiers()));
            }
        }
        check("the methods are those of the document: " + seen, seen.equals(new TreeSet<>(Set.of(FACE))));
        check("the class is public and final", (ClayTraps.class.getModifiers() & (Modifier.PUBLIC | Modifier.FINAL))
            == (Modifier.PUBLIC | Modifier.FINAL));
        Constructor<?>[] constructors = ClayTraps.class.getDeclaredConstructors();
        check("one public constructor", constructors.length == 1 && Modifier.isPublic(constructors[0].getModifiers()));
        for (Field field : ClayTraps.class.getDeclaredFields()) {
            check(field.getName() + " is private", Modifier.isPrivate(field.getModifiers()));
            check(field.getName() + " is final, if static", !Modifier.isStatic(field.getModifiers())
                || Modifier.isFinal(field.getModifiers()));
        }
        hiddenNames(names);
        System.out.println(wrong == 0 ? "the face is as due" : wrong + " things are not as due");
        if (wrong != 0) {
            System.exit(1);
        }
    }

    private static void hiddenNames(Set<String> names) {
        for (Method method : ClayTraps.class.getDeclaredMethods()) {
            check(method.getName() + " is used once", !Modifier.isPrivate(method.getModifiers())
                || !names.contains(method.getName()));
        }
        for (Class<?> inside : ClayTraps.class.getDeclaredClasses()) {
            check(inside.getName() + " is static", Modifier.isStatic(inside.getModifiers()));
            check(inside.getName() + " is not public", !Modifier.isPublic(inside.getModifiers()));
            for (Method method : inside.getDeclaredMethods()) {
                check(method.getName() + " is used once", !names.contains(method.getName()));
            }
        }
    }

    private static String told(Method method) {
        StringBuilder text = new StringBuilder();
        for (Class<?> type : method.getParameterTypes()) {
            text.append(text.length() == 0 ? "" : ",").append(type.getName());
        }
        return method.getReturnType().getName() + " " + method.getName() + "(" + text + ")";
    }

    private static void check(String what, boolean holds) {
        if (!holds) {
            wrong++;
            System.out.println("not so: " + what);
        }
    }
}
