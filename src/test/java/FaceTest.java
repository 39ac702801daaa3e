import java.lang.reflect.Constructor;
import java.lang.reflect.Field;
import java.lang.reflect.Method;
import java.lang.reflect.Modifier;
import java.util.Set;
import java.util.TreeSet;

/** The public face, and nothing beside it. */
public final class FaceTest {
    private static final String[] FACE = {
        "int hang(int, int)", "int wire(int, int, int)", "int cut(int, int)", "int set(int, boolean)",
        "int loops(boolean)", "int tick(int)", "int lanternOf(int, int)", "int wireOf(int, int)",
        "int leads(int)", "int looped()", "int depth(int)", "int depthAgain(int)",
        "int settlesIn()", "int period()", "int periodAgain()", "int flickers(int, int)",
        "int switchesOf(int)", "int table(int)", "int tableAgain(int)",
        "int append(int)", "int run()", "int tell()", "int tellLantern(int)", "int character(int)",
        "int reason(int, boolean)", "int account(int)", "int isBalanced()", "double meanWick()",
        "float glowShare()", "int undo()", "int save()", "int restore()"};

    private static final Due due = new Due();

    public static void main(String[] args) throws Exception {
        constants();
        members();
        classesInside();
        due.end("FaceTest");
    }

    private static void constants() throws Exception {
        due.part("the public face, constants");
        String[] names = {"NONE", "BAD", "FULL", "REFUSED", "NOTHING"};
        for (int i = 0; i < names.length; i++) {
            Field field = LanternLogic.class.getField(names[i]);
            due.isTrue(names[i] + " is an int", field.getType() == int.class);
            due.is(names[i], field.getInt(null), -11 - i);
        }
        due.is("public fields", LanternLogic.class.getFields().length, names.length);
    }

    private static void members() {
        due.part("the public face, members");
        Set<String> face = new TreeSet<>(Set.of(FACE));
        Set<String> names = new TreeSet<>();
        Set<String> found = new TreeSet<>();
        for (String call : FACE) {
            names.add(call.substring(call.indexOf(' ') + 1, call.indexOf('(')));
        }
        for (Method method : LanternLogic.class.getDeclaredMethods()) {
            if (Modifier.isPublic(method.getModifiers())) {
                found.add(told(method));
                due.isTrue(method + " is no static one", !Modifier.isStatic(method.getModifiers()));
            } else {
                due.isTrue(method + " is private", Modifier.isPrivate(method.getModifiers()));
                due.isTrue(method + " has a name of its own", !names.contains(method.getName()));
            }
        }
        due.isText("public methods", found.toString(), face.toString());
        Constructor<?>[] constructors = LanternLogic.class.getDeclaredConstructors();
        due.is("constructors", constructors.length, 1);
        due.isTrue("it is public", Modifier.isPublic(constructors[0].getModifiers()));
        due.is("its parameters", constructors[0].getParameterCount(), 0);
        due.isTrue("the class is public", Modifier.isPublic(LanternLogic.class.getModifiers()));
        due.isTrue("the class is final", Modifier.isFinal(LanternLogic.class.getModifiers()));
        fields(LanternLogic.class);
        for (Field field : LanternLogic.class.getDeclaredFields()) {
            int is = field.getModifiers();
            due.isTrue(field + " is private", Modifier.isPrivate(is) || Modifier.isPublic(is));
        }
    }

    private static String told(Method method) {
        StringBuilder told = new StringBuilder(method.getReturnType() + " " + method.getName() + "(");
        for (Class<?> type : method.getParameterTypes()) {
            told.append(told.charAt(told.length() - 1) == '(' ? "" : ", ").append(type);
        }
        return told.append(')').toString();
    }

    private static void classesInside() {
        due.part("rules 1, 2 and 11, classes inside");
        Class<?>[] classes = LanternLogic.class.getDeclaredClasses();
        due.isTrue("there are at most twelve classes", classes.length < 12);
        for (Class<?> inside : classes) {
            due.isTrue(inside + " is static", Modifier.isStatic(inside.getModifiers()));
            due.isTrue(inside + " is not public", !Modifier.isPublic(inside.getModifiers()));
            fields(inside);
        }
    }

    private static void fields(Class<?> type) {
        int own = 0;
        for (Field field : type.getDeclaredFields()) {
            boolean isStatic = Modifier.isStatic(field.getModifiers());
            due.isTrue(field + " is final if it is static", !isStatic || Modifier.isFinal(field.getModifiers()));
            own += isStatic ? 0 : 1;
        }
        due.isTrue(type + " has at most twenty fields", own <= 20);
    }
}
