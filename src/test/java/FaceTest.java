import java.io.IOException;
import java.lang.reflect.Constructor;
import java.lang.reflect.Field;
import java.lang.reflect.Method;
import java.lang.reflect.Modifier;
import java.nio.file.Files;
import java.nio.file.Path;
import java.util.Random;
import java.util.TreeSet;

/** The face of the document, what LANGUAGE.md lets be looked for plainly, and that no call ever throws. */
public final class FaceTest {
    private static final String[] FACE = {
        "int wall int int int", "int dress int int int int", "int limit int", "int say int", "int wipe", "int fault",
        "int judge int", "int done", "int behind int", "int broken", "int sees int", "int forecast int int", "int gone",
        "int hue int", "int make int int int int", "int wish int int int int", "int whiten int int int",
        "int apart int int int", "int spoil int int int", "int seen int int", "int forget", "int shown int",
        "int look int", "long fogs int int int int int int", "int turns int int", "int year int int int",
        "int image int", "int restore int", "int told int"};
    private static final String[] CONSTANTS = {"NONE", "UNKNOWN", "OUTSIDE", "STATE", "FULL", "NO", "LOST"};
    /** Words that the language's rules leave out, or that this class has no need of. */
    private static final String[] LEFT_OUT = {"import ", "package ", "->", "::", "try", "catch", "throw ", "finally",
        "synchronized", "assert ", "double", "float", "instanceof", "static {", "Exact(", "while (true", "for (;;",
        "hashCode", "toString", "protected"};
    private static int wrong = 0;

    public static void main(String[] args) throws Exception {
        theFace();
        privateNames();
        nestedClasses();
        theSource(System.getProperty("source", "src/main/java/ColourEcho.java"));
        neverThrows();
        System.out.println(wrong == 0 ? "the face is as told" : wrong + " things are not as told");
        if (wrong != 0) {
            System.exit(1);
        }
    }

    private static void must(boolean holds, String what) {
        if (!holds) {
            wrong++;
            System.out.println("not so: " + what);
        }
    }

    private static String told(Method method) {
        StringBuilder text = new StringBuilder(method.getReturnType().getName()).append(' ').append(method.getName());
        for (Class<?> type : method.getParameterTypes()) {
            text.append(' ').append(type.getName());
        }
        return text.toString();
    }

    private static void theFace() {
        Class<?> c = ColourEcho.class;
        must(Modifier.isPublic(c.getModifiers()) && Modifier.isFinal(c.getModifiers()), "public and final");
        Constructor<?>[] made = c.getDeclaredConstructors();
        must(made.length == 1 && Modifier.isPublic(made[0].getModifiers()) && made[0].getParameterCount() == 0, "constructor");
        TreeSet<String> want = new TreeSet<>(java.util.Arrays.asList(FACE));
        TreeSet<String> has = new TreeSet<>();
        for (Method method : c.getDeclaredMethods()) {
            if (!Modifier.isPrivate(method.getModifiers())) {
                must(Modifier.isPublic(method.getModifiers()) && !Modifier.isStatic(method.getModifiers()), told(method));
                has.add(told(method));
            }
        }
        must(has.equals(want), "methods " + has);
        TreeSet<String> constants = new TreeSet<>();
        for (Field field : c.getDeclaredFields()) {
            if (!Modifier.isPrivate(field.getModifiers())) {
                int all = Modifier.PUBLIC | Modifier.STATIC | Modifier.FINAL;
                must((field.getModifiers() & all) == all, "constant " + field.getName());
                must((field.getType() == long.class) == field.getName().equals("LOST"), "type of " + field.getName());
                constants.add(field.getName());
            }
        }
        must(constants.equals(new TreeSet<>(java.util.Arrays.asList(CONSTANTS))), "constants " + constants);
    }

    private static void privateNames() {
        TreeSet<String> names = new TreeSet<>();
        for (String one : FACE) {
            names.add(one.split(" ")[1]);
        }
        for (Method method : ColourEcho.class.getDeclaredMethods()) {
            must(!Modifier.isPrivate(method.getModifiers()) || !names.contains(method.getName()), "private " + method.getName());
            must(method.getParameterCount() <= 7, "parameters of " + method.getName());
        }
        for (Class<?> inside : ColourEcho.class.getDeclaredClasses()) {
            for (Method method : inside.getDeclaredMethods()) {
                must(!names.contains(method.getName()), "inside " + method.getName());
            }
        }
    }

    private static void nestedClasses() {
        Class<?>[] inside = ColourEcho.class.getDeclaredClasses();
        must(inside.length < 12, "some twelve classes");
        for (Class<?> one : inside) {
            must(Modifier.isStatic(one.getModifiers()) && !Modifier.isPublic(one.getModifiers()), "class " + one.getName());
            fields(one);
        }
        fields(ColourEcho.class);
    }

    private static void fields(Class<?> one) {
        int count = 0;
        for (Field field : one.getDeclaredFields()) {
            boolean fixed = Modifier.isStatic(field.getModifiers());
            must(!fixed || Modifier.isFinal(field.getModifiers()), "static field " + field.getName());
            count += fixed ? 0 : 1;
        }
        must(count <= 20, "some twenty fields in " + one.getName());
    }

    private static void theSource(String path) throws IOException {
        String text = Files.readString(Path.of(path)).replaceAll("(?s)/\\*.*?\\*/", "").replaceAll("//[^\n]*", "");
        for (String word : LEFT_OUT) {
            must(!text.contains(word), "the source has no " + word);
        }
        // What lives as long as the object is made with it; no call makes anything.
        for (String line : text.split("\n")) {
            must(!line.contains("new ") || line.contains("final "), "made by a call: " + line.trim());
        }
        String[] lines = text.split("\n");
        for (int start = 0; start < lines.length; start++) {
            String indent = lines[start].replaceAll("[^ ].*", "");
            int end = start;
            while (lines[start].endsWith(") {") && end < lines.length - 1 && !lines[end].equals(indent + "}")) {
                end++;
            }
            must(end - start <= 60, "some sixty lines: " + lines[start].trim());
        }
    }

    private static void neverThrows() throws Exception {
        Random random = new Random(7);
        int[] odd = {Integer.MIN_VALUE, Integer.MAX_VALUE, -1, 0, 1, 2, 3, 5, 8, 9, 10, 60, 61, 63, 64, 99, 100, 999, 1000, 999999999};
        Method[] methods = ColourEcho.class.getMethods();
        for (int run = 0; run < 300; run++) {
            ColourEcho x = new ColourEcho();
            for (int call = 0; call < 512; call++) {
                Method method = methods[random.nextInt(methods.length)];
                if (method.getDeclaringClass() != ColourEcho.class) {
                    continue;
                }
                Object[] with = new Object[method.getParameterCount()];
                for (int i = 0; i < with.length; i++) {
                    with[i] = random.nextInt(3) == 0 ? odd[random.nextInt(odd.length)] : random.nextInt(12);
                }
                if (method.getName().equals("say")) {
                    with[0] = (int) "ryb123456789ABCDEFfsw0123...".charAt(random.nextInt(28));
                }
                once(x, method, with);
            }
        }
    }

    private static void once(ColourEcho x, Method method, Object[] with) throws IllegalAccessException {
        try {
            method.invoke(x, with);
        } catch (java.lang.reflect.InvocationTargetException thrown) {
            must(false, method.getName() + java.util.Arrays.toString(with) + " threw " + thrown.getCause());
        }
    }
}
