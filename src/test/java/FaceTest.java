import java.lang.reflect.Constructor;
import java.lang.reflect.Executable;
import java.lang.reflect.Field;
import java.lang.reflect.Method;
import java.lang.reflect.Modifier;
import java.util.ArrayList;
import java.util.Arrays;
import java.util.Collections;
import java.util.List;
import java.util.TreeSet;

/** The public face, and what LANGUAGE.md asks of members (rules 1, 5 and 11). */
public final class FaceTest {
    private static final Due DUE = new Due("FaceTest");
    private static final String I = "IndexOutOfBoundsException";
    private static final String A = "IllegalArgumentException";
    private static final String S = "IllegalStateException";
    private static final String[] METHODS = {
        "int feel(int,int,int) " + I + " " + A + " " + S,
        "int crawl(int,int) " + I + " " + A + " " + S,
        "int meetMark(int) " + I,
        "int goBack(int,int) " + I + " " + A + " " + S,
        "int setRule(int) " + A,
        "int setCounts(int) " + A,
        "int type(char) " + S,
        "int clearText()",
        "int textError()",
        "int impossibleOrder() " + S,
        "int carryOut() " + S,
        "int undo() " + S,
        "int takeSnapshot()",
        "int restoreSnapshot() " + S,
        "int stateOf(int) " + I,
        "int positionOf(int) " + I,
        "int positionByTracks(int) " + I,
        "int turnsOf(int) " + I,
        "int placeOf(int) " + I,
        "int directionOf(int) " + I,
        "int countOfA(int) " + I,
        "int leader()",
        "int stepTo(int,int) " + I + " " + A,
        "int logLength(int) " + I,
        "int loggedStep(int,int) " + I,
        "double speedOf(int) " + I,
        "int errorsOf(int) " + I,
        "int slipsOf(int) " + I,
        "int distanceOf(int) " + I,
        "int ticksOf(int) " + I,
        "int counts()",
        "int rule()",
        "int recordedStates()",
    };

    public static void main(String[] args) {
        DUE.is("NONE", QuadSnail.NONE, -1);
        DUE.is("IGNORE", QuadSnail.IGNORE, 0);
        DUE.is("FOLLOW", QuadSnail.FOLLOW, 1);
        DUE.is("a final class", Modifier.isFinal(QuadSnail.class.getModifiers()) ? 1 : 0, 1);
        methods();
        constructorsAndFields();
        nestedClasses();
        DUE.end();
    }

    private static void methods() {
        List<String> open = new ArrayList<>();
        List<String> hidden = new ArrayList<>();
        for (Method method : QuadSnail.class.getDeclaredMethods()) {
            if (Modifier.isPrivate(method.getModifiers())) {
                hidden.add(method.getName());
            } else {
                open.add(face(method));
                DUE.is(method + " is public", Modifier.isPublic(method.getModifiers()) ? 1 : 0, 1);
            }
        }
        DUE.isSame("the methods", new TreeSet<>(open), new TreeSet<>(Arrays.asList(METHODS)));
        for (String method : METHODS) {
            String name = method.substring(method.indexOf(' ') + 1, method.indexOf('('));
            DUE.is("no private method is named " + name, hidden.contains(name) ? 1 : 0, 0);
        }
    }

    private static String face(Method method) {
        StringBuilder face = new StringBuilder(method.getReturnType().getSimpleName());
        face.append(' ').append(method.getName()).append('(');
        List<String> parameters = new ArrayList<>();
        for (Class<?> parameter : method.getParameterTypes()) {
            parameters.add(parameter.getSimpleName());
        }
        face.append(String.join(",", parameters)).append(')');
        for (Class<?> thrown : method.getExceptionTypes()) {
            face.append(' ').append(thrown.getSimpleName());
        }
        return face.toString();
    }

    private static void constructorsAndFields() {
        Constructor<?>[] constructors = QuadSnail.class.getDeclaredConstructors();
        DUE.is("constructors", constructors.length, 1);
        DUE.is("it is public", Modifier.isPublic(constructors[0].getModifiers()) ? 1 : 0, 1);
        DUE.is("it takes nothing", constructors[0].getParameterCount(), 0);
        List<String> open = new ArrayList<>();
        for (Field field : QuadSnail.class.getDeclaredFields()) {
            if (!Modifier.isPrivate(field.getModifiers())) {
                open.add(field.getName());
            }
        }
        Collections.sort(open);
        DUE.isSame("the open fields", open, List.of("FOLLOW", "IGNORE", "NONE"));
    }

    private static void nestedClasses() {
        List<Class<?>> all = new ArrayList<>(List.of(QuadSnail.class));
        for (int next = 0; next < all.size(); next++) {
            all.addAll(Arrays.asList(all.get(next).getDeclaredClasses()));
        }
        DUE.is("at most twelve classes", all.size() <= 12 ? 1 : 0, 1);
        for (Class<?> one : all) {
            DUE.is(one + " is static", one == QuadSnail.class || Modifier.isStatic(one.getModifiers()) ? 1 : 0, 1);
            int fields = 0;
            for (Field field : one.getDeclaredFields()) {
                boolean isStatic = Modifier.isStatic(field.getModifiers());
                DUE.is(field + " is final if it is static",
                        !isStatic || Modifier.isFinal(field.getModifiers()) ? 1 : 0, 1);
                fields += isStatic ? 0 : 1;
            }
            DUE.is(one + " has at most twenty fields", fields <= 20 ? 1 : 0, 1);
            List<Executable> executables = new ArrayList<>(Arrays.asList(one.getDeclaredMethods()));
            executables.addAll(Arrays.asList(one.getDeclaredConstructors()));
            for (Executable executable : executables) {
                DUE.is(executable + " takes at most seven", executable.getParameterCount() <= 7 ? 1 : 0, 1);
            }
        }
    }
}
