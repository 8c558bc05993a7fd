import java.lang.reflect.Constructor;
import java.lang.reflect.Field;
import java.lang.reflect.Method;
import java.lang.reflect.Modifier;
import java.util.Set;
import java.util.TreeSet;

/** The public face is the document's one, and nothing else can be seen from outside. */
public final class FaceTest {
    private static final String[] FACE = {
        "strew(int,int,int)", "sweep(int)", "clamp(int,int)", "unclamp(int)", "set(int,int)",
        "bow(int,int,int)", "bowAll()", "strike(int)", "play(int)",
        "type(char)", "clearText()",
        "undo()", "keep()", "restore()",
        "place(int,int,int)", "way(int,int)", "swing(int,int,int)", "sounds(int,int)",
        "why(int,int,int)", "possible(int)", "waiting(int,int)", "sand(boolean,int)",
        "count(int)", "clampAt(int,boolean)",
    };
    private static final String[] CONSTANTS = {
        "BAD_VALUE", "FULL", "NONE", "NOT_POSSIBLE", "UNKNOWN",
    };

    private static final Checks checks = new Checks("FaceTest");

    private FaceTest() {
    }

    public static void main(String[] arguments) {
        constantsHaveTheirNumbers();
        classAndConstructor();
        methodsAreTheDocumentsOnes();
        fieldsAreTheConstants();
        classesInsideAreStatic();
        allClassesAreSmall();
        checks.end();
    }

    private static void constantsHaveTheirNumbers() {
        checks.due("UNKNOWN", -1, BowedPlate.UNKNOWN);
        checks.due("BAD_VALUE", -2, BowedPlate.BAD_VALUE);
        checks.due("FULL", -3, BowedPlate.FULL);
        checks.due("NOT_POSSIBLE", -4, BowedPlate.NOT_POSSIBLE);
        checks.due("NONE", -5, BowedPlate.NONE);
    }

    private static void classAndConstructor() {
        int modifiers = BowedPlate.class.getModifiers();
        checks.holds("the class is public and final",
                Modifier.isPublic(modifiers) && Modifier.isFinal(modifiers));
        Constructor<?>[] constructors = BowedPlate.class.getDeclaredConstructors();
        checks.due("constructors", 1, constructors.length);
        checks.due("arguments of the constructor", 0, constructors[0].getParameterCount());
        checks.holds("the constructor is public", Modifier.isPublic(constructors[0].getModifiers()));
    }

    private static void methodsAreTheDocumentsOnes() {
        Set<String> due = new TreeSet<>(Set.of(FACE));
        Set<String> found = new TreeSet<>();
        Set<String> publicNames = new TreeSet<>();
        Set<String> privateNames = new TreeSet<>();
        for (Method method : BowedPlate.class.getDeclaredMethods()) {
            if (Modifier.isPrivate(method.getModifiers()) || method.isSynthetic()) {
                privateNames.add(method.getName());
                continue;
            }
            checks.holds(method + " is public, of the object, and answers an int",
                    Modifier.isPublic(method.getModifiers())
                    && !Modifier.isStatic(method.getModifiers())
                    && method.getReturnType() == int.class);
            publicNames.add(method.getName());
            found.add(toText(method));
        }
        checks.holds("the methods are " + due + ", found " + found, due.equals(found));
        privateNames.retainAll(publicNames);
        checks.holds("no private method bears the name of a public one: " + privateNames,
                privateNames.isEmpty());
    }

    private static String toText(Method method) {
        StringBuilder text = new StringBuilder(method.getName()).append('(');
        for (Class<?> type : method.getParameterTypes()) {
            text.append(text.charAt(text.length() - 1) == '(' ? "" : ",").append(type.getName());
        }
        return text.append(')').toString();
    }

    private static void fieldsAreTheConstants() {
        Set<String> found = new TreeSet<>();
        for (Field field : BowedPlate.class.getDeclaredFields()) {
            int modifiers = field.getModifiers();
            if (Modifier.isStatic(modifiers)) {
                checks.holds(field + " is final", Modifier.isFinal(modifiers));
            }
            if (!Modifier.isPrivate(modifiers)) {
                found.add(field.getName());
                checks.holds(field + " is a public constant",
                        Modifier.isPublic(modifiers) && Modifier.isStatic(modifiers)
                        && field.getType() == int.class);
            }
        }
        checks.holds("the constants, found " + found, found.equals(new TreeSet<>(Set.of(CONSTANTS))));
    }

    private static void classesInsideAreStatic() {
        for (Class<?> inside : BowedPlate.class.getDeclaredClasses()) {
            int modifiers = inside.getModifiers();
            checks.holds(inside + " is static and not public", Modifier.isStatic(modifiers)
                    && !Modifier.isPublic(modifiers) && !Modifier.isProtected(modifiers));
        }
    }

    /** LANGUAGE.md, rules 1, 5 and 11, for the class and those inside it. */
    private static void allClassesAreSmall() {
        Set<String> publicNames = new TreeSet<>();
        for (String method : FACE) {
            publicNames.add(method.substring(0, method.indexOf('(')));
        }
        isSmall(BowedPlate.class, publicNames);
        for (Class<?> inside : BowedPlate.class.getDeclaredClasses()) {
            isSmall(inside, publicNames);
        }
    }

    private static void isSmall(Class<?> one, Set<String> publicNames) {
        int fields = 0;
        for (Field field : one.getDeclaredFields()) {
            boolean isStatic = Modifier.isStatic(field.getModifiers());
            fields += isStatic ? 0 : 1;
            checks.holds(field + " is final, if it is static", !isStatic || Modifier.isFinal(field.getModifiers()));
        }
        checks.holds(one + " has at most twenty fields: " + fields, fields <= 20);
        for (Method method : one.getDeclaredMethods()) {
            checks.holds(method + " takes at most seven parameters", method.getParameterCount() <= 7);
            checks.holds(method + ", if private, has a name of its own", method.isSynthetic()
                    || !Modifier.isPrivate(method.getModifiers()) || !publicNames.contains(method.getName()));
        }
        checks.holds(one + " has no class inside it but the program's own", one == BowedPlate.class
                || one.getDeclaredClasses().length == 0);
    }
}
