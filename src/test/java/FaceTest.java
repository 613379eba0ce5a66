import java.lang.reflect.Constructor;
import java.lang.reflect.Field;
import java.lang.reflect.Method;
import java.lang.reflect.Modifier;
import java.util.Arrays;
import java.util.TreeSet;

/** The class has the face of the document, and no other one. */
public final class FaceTest {
    private static final String[] METHODS = {
        "int announce(int,int,int)", "int leave(int)", "int send(int)", "int set(int,int)", "int pass(int)",
        "int type(char)", "int clearText()", "int perform()", "int stopped(int)",
        "int undo()", "int keep()", "int restore()",
        "int king(int,int)", "int seat(int)", "int waits(int)", "int reason(int,int)", "int dueIn(int)",
        "int dueSeat(int,int)", "int wrongPairs()", "int changesNeeded()", "int mostSlighted()",
        "int ifRounds(int)", "int nextArrival()", "int count(int)"
    };
    private static final String[] CONSTANTS = {"UNKNOWN", "BAD_VALUE", "FULL", "NOT_POSSIBLE", "NONE"};

    public static void main(String[] args) throws Exception {
        Due due = new Due("FaceTest");
        Class<?> face = KingsBanquet.class;
        due.is("the class's modifiers", face.getModifiers(), Modifier.PUBLIC | Modifier.FINAL);
        methods(due, face);
        constants(due, face);
        constructors(due, face);
        for (Class<?> inside : face.getDeclaredClasses()) {
            due.is(inside + " is static", Modifier.isStatic(inside.getModifiers()) ? 1 : 0, 1);
            due.is(inside + " is not public", Modifier.isPublic(inside.getModifiers()) ? 1 : 0, 0);
        }
        due.end();
    }

    private static void methods(Due due, Class<?> face) {
        TreeSet<String> open = new TreeSet<>();
        TreeSet<String> openNames = new TreeSet<>();
        for (Method method : face.getDeclaredMethods()) {
            if (!Modifier.isPrivate(method.getModifiers())) {
                open.add(told(method));
                openNames.add(method.getName());
                due.is(method + " is public and no more", method.getModifiers(), Modifier.PUBLIC);
            }
        }
        due.is("the open methods " + open, open.equals(new TreeSet<>(Arrays.asList(METHODS))) ? 1 : 0, 1);
        for (Method method : face.getDeclaredMethods()) {
            boolean hidesName = Modifier.isPrivate(method.getModifiers()) && openNames.contains(method.getName());
            due.is(method + " bears a public name", hidesName ? 1 : 0, 0);
        }
    }

    private static String told(Method method) {
        StringBuilder text = new StringBuilder();
        text.append(method.getReturnType().getName()).append(' ').append(method.getName()).append('(');
        String comma = "";
        for (Class<?> type : method.getParameterTypes()) {
            text.append(comma).append(type.getName());
            comma = ",";
        }
        return text.append(')').toString();
    }

    private static void constants(Due due, Class<?> face) throws Exception {
        for (int at = 0; at < CONSTANTS.length; at++) {
            Field field = face.getField(CONSTANTS[at]);
            due.is(CONSTANTS[at], field.getInt(null), -1 - at);
            due.is(CONSTANTS[at] + " is a constant", field.getModifiers(),
                    Modifier.PUBLIC | Modifier.STATIC | Modifier.FINAL);
        }
        int open = 0;
        for (Field field : face.getDeclaredFields()) {
            open += Modifier.isPrivate(field.getModifiers()) ? 0 : 1;
        }
        due.is("how many open fields", open, CONSTANTS.length);
    }

    private static void constructors(Due due, Class<?> face) {
        Constructor<?>[] all = face.getDeclaredConstructors();
        due.is("how many constructors", all.length, 1);
        due.is("the constructor is public", all[0].getModifiers(), Modifier.PUBLIC);
        due.is("its parameters", all[0].getParameterCount(), 0);
    }
}
