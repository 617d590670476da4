import java.lang.reflect.Field;
import java.lang.reflect.Method;
import java.lang.reflect.Modifier;
import java.util.Set;
import java.util.TreeSet;

/** The public face, and what a new object is (promise 1). */
public final class FaceTest {
    private static final String[] FACE = {
        "int man(int)", "int saying(int,int,int)", "int mend(int,int,int)", "int of(int,int)", "int feed(int)",
        "int law()", "int reach(int)", "int plan(int,int)", "int tone(int,int)", "int behind(int,int,int)",
        "int say(int,int)", "int can()", "long rows(int)", "int thresh()", "int tune(int)", "int nearest(int,int)",
        "long likely(int,int,int)", "int slips(int,int)", "int apart(int)", "int closest()", "int begins(int)",
        "int meet(int)", "int first(int)", "int silent()", "int byTurns(int,int,int)", "int drawn(int,int,int,int)",
        "int strike(int)", "int sow(int)", "int led(int)", "int image()", "int back()", "int undo()", "int redo()",
        "int body(int)", "int act(int,int,int)", "int trace(int)", "int keep(int,int)", "int row(int,int,int)",
        "int put(int,int,long)", "long element(int,int)", "int shift(int,int,int,int,int)", "int taken(int,int)",
        "int count(int)"};

    public static void main(String[] args) {
        Set<String> want = new TreeSet<>(Set.of(FACE));
        Set<String> names = new TreeSet<>();
        Set<String> got = new TreeSet<>();
        for (Method method : ThreshedSound.class.getDeclaredMethods()) {
            if (Modifier.isPublic(method.getModifiers())) {
                got.add(told(method));
                names.add(method.getName());
            }
        }
        Due.is("the public methods " + got, got.equals(want) ? 1 : 0, 1);
        for (Method method : ThreshedSound.class.getDeclaredMethods()) {
            boolean hidden = Modifier.isPrivate(method.getModifiers()) && !names.contains(method.getName());
            Due.is(method.toString(), Modifier.isPublic(method.getModifiers()) || hidden ? 1 : 0, 1);
        }
        int constants = 0;
        for (Field field : ThreshedSound.class.getDeclaredFields()) {
            constants += Modifier.isPublic(field.getModifiers()) ? 1 : 0;
            boolean either = Modifier.isPublic(field.getModifiers()) || Modifier.isPrivate(field.getModifiers());
            Due.is(field.toString(), either ? 1 : 0, 1);
        }
        Due.is("public constants", constants, 5);
        Due.is("final", Modifier.isFinal(ThreshedSound.class.getModifiers()) ? 1 : 0, 1);
        for (Class<?> inside : ThreshedSound.class.getDeclaredClasses()) {
            Due.is(inside.getName(), Modifier.isStatic(inside.getModifiers()) ? 1 : 0, 1);
            for (Method method : inside.getDeclaredMethods()) {
                Due.is(method.toString(), names.contains(method.getName()) ? 1 : 0, 0);
            }
        }
        constantsAreAsTold();
        newObject();
        Due.end();
    }

    private static String told(Method method) {
        StringBuilder text = new StringBuilder();
        text.append(method.getReturnType().getName()).append(' ').append(method.getName()).append('(');
        Class<?>[] types = method.getParameterTypes();
        for (int i = 0; i < types.length; i++) {
            text.append(i == 0 ? "" : ",").append(types[i].getName());
        }
        return text.append(')').toString();
    }

    private static void constantsAreAsTold() {
        Due.is("BAD", ThreshedSound.BAD, -1);
        Due.is("NOT", ThreshedSound.NOT, -2);
        Due.is("FULL", ThreshedSound.FULL, -3);
        Due.is("STATE", ThreshedSound.STATE, -5);
        Due.is("VOID", ThreshedSound.VOID, -2000000000);
    }

    private static void newObject() {
        ThreshedSound x = new ThreshedSound();
        for (int plank = 0; plank < 16; plank++) {
            Due.is("of(plank, 0)", x.of(plank, 0), 0);
            Due.is("of(plank, 1)", x.of(plank, 1), 0);
        }
        Due.is("of(0, 6)", x.of(0, 6), 0);
        for (int what = 0; what < 6; what++) {
            Due.is("count(" + what + ")", x.count(what), 0);
        }
        for (int what = 0; what < 5; what++) {
            Due.is("led(" + what + ")", x.led(what), 0);
        }
        for (int shelf = 0; shelf < 6; shelf++) {
            Due.is("put(" + shelf + ", 0, 1)", x.put(shelf, 0, 1), -11);
        }
        Due.is("back()", x.back(), -5);
        Due.is("undo()", x.undo(), -5);
        Due.is("redo()", x.redo(), -5);
        Due.is("trace(0)", x.trace(0), -1);
    }
}
