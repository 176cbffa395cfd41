import java.lang.reflect.Constructor;
import java.lang.reflect.Field;
import java.lang.reflect.Method;
import java.lang.reflect.Modifier;
import java.util.Arrays;
import java.util.TreeSet;

/** The public face: its constants, its constructor and its methods, and no other member that is not private. */
public final class FaceTest {
    private static final String[] METHODS = {
        "int add(int,int,int)", "int take(int)", "int setPins(int,int)", "int breakChip(int,boolean)",
        "int clock(int,int)", "int move(int)", "int identify()", "int load(int,int)", "int exchange(int,int)",
        "int append(int)", "int clearText()", "int fault()", "int run()", "int undo()", "int save()", "int restore()",
        "int chip(int,int)", "int count(int)", "int found(int)", "int distance(int,int)", "int peek(int)",
        "int ifIdentified()", "int ifExchanged(int,int)", "float bypassed()"};

    public static void main(String[] args) {
        Due due = new Due("FaceTest");
        due.promise("the public face");
        due.same("the methods", methods().toString(), new TreeSet<>(Arrays.asList(METHODS)).toString());
        due.same("the constants", constants().toString(), "[BAD_VALUE, NONE, NO_SUCH, TOO_MANY]");
        due.same("the class", Modifier.toString(ScanChain.class.getModifiers()), "public final");
        Constructor<?>[] made = ScanChain.class.getDeclaredConstructors();
        due.same("the constructors", made.length, 1);
        due.same("the constructor", made[0].toString(), "public ScanChain()");
        due.end();
    }

    private static TreeSet<String> methods() {
        TreeSet<String> face = new TreeSet<>();
        TreeSet<String> hidden = new TreeSet<>();
        for (Method method : ScanChain.class.getDeclaredMethods()) {
            if (Modifier.isPrivate(method.getModifiers())) {
                hidden.add(method.getName());
                continue;
            }
            String types = Arrays.toString(method.getParameterTypes()).replaceAll("[\\[\\] ]", "");
            boolean isPlain = Modifier.toString(method.getModifiers()).equals("public");
            face.add((isPlain ? "" : "not public: ") + method.getReturnType() + " " + method.getName() + "(" + types + ")");
        }
        for (String name : hidden) {
            if (face.toString().contains(" " + name + "(")) {
                face.add("a private method bears a public name: " + name);
            }
        }
        return face;
    }

    private static TreeSet<String> constants() {
        TreeSet<String> names = new TreeSet<>();
        for (Field field : ScanChain.class.getDeclaredFields()) {
            String modifiers = Modifier.toString(field.getModifiers());
            if (!modifiers.startsWith("private")) {
                boolean isConstant = modifiers.equals("public static final") && field.getType() == int.class;
                names.add((isConstant ? "" : "no constant: ") + field.getName());
            }
        }
        return names;
    }
}
