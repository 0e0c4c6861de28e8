import java.lang.reflect.Constructor;
import java.lang.reflect.Field;
import java.lang.reflect.Method;
import java.lang.reflect.Modifier;
import java.util.TreeSet;

/** The public face, and a new object (promise 1). */
public final class FaceTest {
    private static final Check check = new Check("FaceTest");

    private static final String[] METHODS = {
        "int feed(int,int,int,int,int)", "int end(int)", "int hire()", "int fault(int)", "int told(int)",
        "int chance(int,int)", "int feeling(int)", "int wage(int,int)", "int worth(int)", "int leaves(int)",
        "int does()", "int comes()", "long upper()", "long lower()", "int make(int)", "long wages(int,boolean)",
        "int seen(int)", "int best()", "int merged(int,int,int)", "int coins(int,int)", "int bar(int)",
        "int crew(int,int)", "int watch(int,int)", "int press(int,int)", "int by(int)", "int proves(int)",
        "int mix(int,int)", "int same(int)", "int edge(int,int,int)", "int ratio(int,int)", "int rises(int)",
        "int see(int,int)", "int right(int,int,int)", "int odds(int,int)", "int guess(int)", "int count(int)"};

    public static void main(String[] args) {
        face();
        newObject();
        check.finish();
    }

    private static void face() {
        TreeSet<String> want = new TreeSet<>();
        for (String method : METHODS) {
            want.add(method);
        }
        TreeSet<String> got = new TreeSet<>();
        for (Method method : PaidBySigns.class.getDeclaredMethods()) {
            if (!Modifier.isPrivate(method.getModifiers())) {
                StringBuilder line = new StringBuilder(method.getReturnType() + " " + method.getName() + "(");
                for (Class<?> type : method.getParameterTypes()) {
                    line.append(line.charAt(line.length() - 1) == '(' ? "" : ",").append(type.getName());
                }
                got.add(line + ")");
            }
        }
        check.due("the methods of the face " + got, got.equals(want) ? 1 : 0, 1);
        TreeSet<String> constants = new TreeSet<>();
        for (Field field : PaidBySigns.class.getDeclaredFields()) {
            if (!Modifier.isPrivate(field.getModifiers())) {
                constants.add(Modifier.toString(field.getModifiers()) + " " + field.getName());
            }
        }
        check.due("the constants of the face", constants.size(), 4);
        check.due("NONE", PaidBySigns.NONE, -1);
        check.due("RANGE", PaidBySigns.RANGE, -2);
        check.due("FULL", PaidBySigns.FULL, -3);
        check.due("STATE", PaidBySigns.STATE, -4);
        Constructor<?>[] makers = PaidBySigns.class.getDeclaredConstructors();
        check.due("the constructors", makers.length, 1);
        check.due("a public one", Modifier.isPublic(makers[0].getModifiers()) ? 1 : 0, 1);
        int kind = PaidBySigns.class.getModifiers();
        check.due("public and final", Modifier.isPublic(kind) && Modifier.isFinal(kind) ? 1 : 0, 1);
    }

    private static void newObject() {
        PaidBySigns x = new PaidBySigns();
        check.due("told(0)", x.told(0), 0);
        check.due("told(1)", x.told(1), 0);
        check.due("told(2)", x.told(2), 10);
        check.due("told(3)", x.told(3), 0);
        check.due("told(4)", x.told(4), 0);
        check.due("told(5)", x.told(5), 1);
        check.due("told(10)", x.told(10), -1);
        check.due("told(20)", x.told(20), -1);
        check.due("told(30)", x.told(30), 1);
        check.due("told(31)", x.told(31), -1);
        check.due("told(40)", x.told(40), -1);
        check.due("does()", x.does(), -4);
        check.due("comes()", x.comes(), -4);
        check.due("guess(0)", x.guess(0), -4);
        check.due("best()", x.best(), -1);
        check.due("feeling(9999)", x.feeling(9999), 9999);
        check.noFraction("new", x);
        for (int what = 0; what < 4; what++) {
            check.due("count(" + what + ")", x.count(what), what == 2 ? 1 : 0);
        }
        check.due("fault(0)", x.fault(0), 0);
        check.due("fault(1)", x.fault(1), -1);
        check.due("wages(0, true)", x.wages(0, true), -1);
        check.due("press(-1, 7)", x.press(-1, 7), 0);
        check.due("press(-1, 0)", x.press(-1, 0), 7);
        check.due("right(0, 0, 0)", x.right(0, 0, 0), -2);
    }
}
