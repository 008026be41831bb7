import java.lang.reflect.Constructor;
import java.lang.reflect.Field;
import java.lang.reflect.Method;
import java.lang.reflect.Modifier;
import java.util.TreeSet;

/** The public face is the one of the document, and nothing else. */
public final class FaceTest {
    private static final String[] METHODS = {
        "int bury(int)", "int setClock(int,int,int)", "int mute(int,boolean)", "int set(int,int)",
        "int thump(int,int,int)", "int knock(int,int,int)", "int leaveOut(int,boolean)", "int readOrders()",
        "int type(char)", "int clearText()", "int undo()", "int keep()", "int restore()", "int ear(int,int)",
        "int clock(int,int)", "int mark(int,int,int)", "long error(int,int)", "int stalest()",
        "int heard(boolean,int,int)", "long putRight(int,int)", "long found(int,int)", "long spread(int,int)",
        "int truth(int,int)", "int count(int)"};

    public static void main(String[] args) {
        constants();
        members();
        Answers.end();
    }

    private static void constants() {
        Answers.due("UNKNOWN", ThumpEars.UNKNOWN, -1);
        Answers.due("BAD_VALUE", ThumpEars.BAD_VALUE, -2);
        Answers.due("FULL", ThumpEars.FULL, -3);
        Answers.due("NOT_POSSIBLE", ThumpEars.NOT_POSSIBLE, -4);
        Answers.due("NONE", ThumpEars.NONE, -5);
    }

    private static void members() {
        TreeSet<String> methods = new TreeSet<>();
        for (Method method : ThumpEars.class.getDeclaredMethods()) {
            if (!Modifier.isPrivate(method.getModifiers())) {
                methods.add(signature(method));
            }
        }
        Answers.same("the methods", methods.toString(), new TreeSet<>(java.util.List.of(METHODS)).toString());
        TreeSet<String> fields = new TreeSet<>();
        for (Field field : ThumpEars.class.getDeclaredFields()) {
            if (!Modifier.isPrivate(field.getModifiers())) {
                fields.add(field.getName());
            }
        }
        Answers.same("the constants", fields.toString(), "[BAD_VALUE, FULL, NONE, NOT_POSSIBLE, UNKNOWN]");
        Constructor<?>[] constructors = ThumpEars.class.getDeclaredConstructors();
        Answers.due("the constructors", constructors.length, 1);
        Answers.due("the constructor's arguments", constructors[0].getParameterCount(), 0);
        Answers.due("the class is final", Modifier.isFinal(ThumpEars.class.getModifiers()) ? 1 : 0, 1);
    }

    private static String signature(Method method) {
        StringBuilder text = new StringBuilder();
        text.append(method.getReturnType()).append(' ').append(method.getName()).append('(');
        String comma = "";
        for (Class<?> type : method.getParameterTypes()) {
            text.append(comma).append(type);
            comma = ",";
        }
        return text.append(')').toString();
    }
}
