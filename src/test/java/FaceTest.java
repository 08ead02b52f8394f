import java.lang.reflect.Constructor;
import java.lang.reflect.Field;
import java.lang.reflect.Method;
import java.lang.reflect.Modifier;
import java.util.Arrays;
import java.util.Set;
import java.util.TreeSet;
import java.util.stream.Collectors;

/** The public face of the document, whole and with nothing beside it. */
public final class FaceTest {
    private static final String[] METHODS = {"int append(int)", "int clearText()", "int firstError()",
        "int configure()", "int addRule(int,int,int,int,int)", "int removeRule(int)", "int setOwner(int,int)",
        "int setTarget(int,int)", "int place(int)", "int push(int)", "int play(int)", "int undo()", "int ruleCount()",
        "int ruleState(int)", "int ruleTop(int)", "int ruleNext(int)", "int ruleSymbol(int,int)", "int ownerOf(int)",
        "int isTarget(int)", "int presentState()", "int stackSize()", "int stackSymbol(int)", "int playableRules()",
        "int winner()", "int winningRound()", "int distance()", "int bestRule()", "int rounds()",
        "int forcingSetCount(int,int)", "int forcingSet(int,int,int)", "long winningStacks(int,int)"};
    private static final String[] CONSTANTS = {"INVALID_ARGUMENT", "NOT_POSSIBLE", "CAPACITY_EXCEEDED", "NOT_FOUND",
        "OVERFLOW", "REACHER", "OPPONENT", "NO_SYMBOL"};
    private static final int[] VALUES = {-1, -2, -3, -4, -5, 0, 1, -1};

    private FaceTest() {
    }

    public static void main(String[] args) throws ReflectiveOperationException {
        Class<?> face = PushdownGameSolver.class;
        Check.holds("the class is public and final",
                Modifier.isPublic(face.getModifiers()) && Modifier.isFinal(face.getModifiers()));
        methods(face);
        constants(face);
        Constructor<?>[] constructors = face.getDeclaredConstructors();
        Check.due("the number of constructors", constructors.length, 1);
        Check.holds("the constructor is public and takes nothing",
                Modifier.isPublic(constructors[0].getModifiers()) && constructors[0].getParameterCount() == 0);
        for (Class<?> inside : face.getDeclaredClasses()) {
            Check.holds(inside + " is static and not public", Modifier.isStatic(inside.getModifiers())
                    && !Modifier.isPublic(inside.getModifiers()) && !Modifier.isProtected(inside.getModifiers()));
        }
        Check.end();
    }

    private static void methods(Class<?> face) {
        Set<String> visible = new TreeSet<>();
        Set<String> visibleNames = new TreeSet<>();
        Set<String> privateNames = new TreeSet<>();
        for (Method method : face.getDeclaredMethods()) {
            String parameters = Arrays.stream(method.getParameterTypes()).map(Class::getName)
                    .collect(Collectors.joining(",", "(", ")"));
            if (Modifier.isPrivate(method.getModifiers())) {
                privateNames.add(method.getName());
            } else {
                visible.add(method.getReturnType() + " " + method.getName() + parameters);
                visibleNames.add(method.getName());
                Check.holds(method + " is public and of the object",
                        Modifier.isPublic(method.getModifiers()) && !Modifier.isStatic(method.getModifiers()));
            }
        }
        for (Class<?> inside : face.getDeclaredClasses()) {
            for (Method method : inside.getDeclaredMethods()) {
                privateNames.add(method.getName());
            }
        }
        Set<String> wanted = new TreeSet<>(Arrays.asList(METHODS));
        Check.holds("the methods are those of the document: " + visible, visible.equals(wanted));
        privateNames.retainAll(visibleNames);
        Check.holds("no other method bears the name of a public one: " + privateNames, privateNames.isEmpty());
    }

    private static void constants(Class<?> face) throws ReflectiveOperationException {
        Set<String> visible = new TreeSet<>();
        for (Field field : face.getDeclaredFields()) {
            if (!Modifier.isPrivate(field.getModifiers())) {
                visible.add(field.getName());
            }
        }
        Set<String> wanted = new TreeSet<>(Arrays.asList(CONSTANTS));
        Check.holds("the constants are those of the document: " + visible, visible.equals(wanted));
        for (int i = 0; i < CONSTANTS.length; i++) {
            Field field = face.getField(CONSTANTS[i]);
            Check.holds(CONSTANTS[i] + " is a constant of int", field.getType() == int.class
                    && Modifier.isStatic(field.getModifiers()) && Modifier.isFinal(field.getModifiers()));
            Check.due(CONSTANTS[i], field.getInt(null), VALUES[i]);
        }
    }
}
