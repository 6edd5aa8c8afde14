import java.lang.reflect.Constructor;
import java.lang.reflect.Field;
import java.lang.reflect.Method;
import java.lang.reflect.Modifier;
import java.util.Random;
import java.util.TreeSet;

/** The class has the document's face and nothing else, and no call of it throws, whatever the arguments. */
public final class FaceTest {
    private static final Checks checks = new Checks();

    public static void main(String[] args) throws ReflectiveOperationException {
        face();
        noCallThrows();
        checks.end();
    }

    private static void face() {
        TreeSet<String> want = new TreeSet<>();
        want.add("public final class BumpNotes");
        want.add("public BumpNotes()");
        want.add("public static final int BumpNotes.NONE");
        String[] methods = {"int BumpNotes.pack(int,int,int)", "boolean BumpNotes.needs(int,int,int)",
            "boolean BumpNotes.setting(int)", "boolean BumpNotes.pre(int,boolean)", "boolean BumpNotes.text(long)",
            "int BumpNotes.change(int)", "int BumpNotes.revert(int)", "boolean BumpNotes.squash(int,int)",
            "boolean BumpNotes.face(int)", "int BumpNotes.run()", "int BumpNotes.bump(int)",
            "int BumpNotes.version(int,int)", "int BumpNotes.about(int,int)", "int BumpNotes.note(int)",
            "int BumpNotes.told(int)", "int BumpNotes.tag(int)"};
        for (String method : methods) {
            want.add("public " + method);
        }
        TreeSet<String> got = new TreeSet<>();
        got.add(Modifier.toString(BumpNotes.class.getModifiers()) + " class " + BumpNotes.class.getName());
        for (Constructor<?> one : BumpNotes.class.getDeclaredConstructors()) {
            got.add(one.toString());
        }
        for (Field one : BumpNotes.class.getDeclaredFields()) {
            if (!Modifier.isPrivate(one.getModifiers())) {
                got.add(one.toString());
            }
        }
        TreeSet<String> names = new TreeSet<>();
        for (Method one : BumpNotes.class.getDeclaredMethods()) {
            if (!Modifier.isPrivate(one.getModifiers())) {
                got.add(one.toString());
                names.add(one.getName());
            }
        }
        checks.due("the face", got.toString(), want.toString());
        for (Method one : BumpNotes.class.getDeclaredMethods()) {
            boolean named = Modifier.isPrivate(one.getModifiers()) && names.contains(one.getName());
            checks.due("private " + one.getName(), named, false);
        }
    }

    private static void noCallThrows() throws ReflectiveOperationException {
        Random random = new Random(7);
        Method[] methods = BumpNotes.class.getDeclaredMethods();
        java.util.Arrays.sort(methods, java.util.Comparator.comparing(Method::toString));
        for (int round = 0; round < 300; round++) {
            BumpNotes x = new BumpNotes();
            for (int call = 0; call < 1000; call++) {
                Method method = methods[random.nextInt(methods.length)];
                if (Modifier.isPublic(method.getModifiers())) {
                    method.invoke(x, arguments(method, random));
                }
            }
        }
    }

    private static Object[] arguments(Method method, Random random) {
        Class<?>[] types = method.getParameterTypes();
        Object[] all = new Object[types.length];
        for (int i = 0; i < all.length; i++) {
            if (types[i] == int.class) {
                all[i] = random.nextInt(10) == 0 ? random.nextInt() : (Object) (random.nextInt(64) - 2);
            } else if (types[i] == long.class) {
                all[i] = random.nextInt(3) == 0 ? random.nextLong() : (Object) Checks.word("fix: abc");
            } else {
                all[i] = random.nextBoolean();
            }
        }
        return all;
    }
}
