import java.io.IOException;
import java.lang.reflect.Constructor;
import java.lang.reflect.Field;
import java.lang.reflect.Method;
import java.lang.reflect.Modifier;
import java.nio.file.Files;
import java.nio.file.Path;
import java.util.Arrays;
import java.util.List;
import java.util.TreeSet;
import java.util.regex.Pattern;

/** The document's public face, and those rules of LANGUAGE.md that a text can be looked at for. */
public final class FaceTest {
    private static final String[] FACE = {
        "int write(int)", "int wipe()", "int fault()", "int laundry()", "int flag(int,int)", "int send(int)",
        "int pull(int)", "int hour()", "int wind(int)", "int undo()", "int peace(int,int)", "int quiet()",
        "int sending(boolean)", "int cover()", "int ran(int,int)", "int judge(int,int)", "int see(int,int,int)",
        "int unsee()", "int had(int,int)", "int share(int,boolean)", "int rests(int,int,int)",
        "int dry(int,int,int,boolean)", "long seed(long)", "int weeks(int)", "int keep(int)", "int again(int)",
        "int count(int)"};
    private static final String[] CONSTANTS = {"UNKNOWN=-1", "OUTSIDE=-2", "STATE=-3", "FULL=-4", "NONE=-9"};
    private static final String[] BARRED = {
        "\\bthrow\\b", "\\bthrows\\b", "\\btry\\b", "\\bcatch\\b", "\\bfinally\\b", "\\bsynchronized\\b",
        "\\bassert\\b", "\\bimport\\b", "\\bpackage\\b", "->", "::", "\\bnative\\b", "\\bvar\\b", "Exact\\b",
        "\\bObject\\b", "\\bThread\\b", "\\bSystem\\.(?!arraycopy)", "\\bMath\\.random\\b", "\\bhashCode\\b",
        "\\btoString\\b", "\\bwhile\\b", "\\bprotected\\b", "static \\{"};

    public static void main(String[] args) throws Exception {
        methods();
        constants();
        constructor();
        innerClasses();
        source();
        Check.end();
    }

    private static void methods() {
        TreeSet<String> got = new TreeSet<>();
        TreeSet<String> privates = new TreeSet<>();
        for (Method method : FlagWash.class.getDeclaredMethods()) {
            if (Modifier.isPrivate(method.getModifiers()) || method.isSynthetic()) {
                privates.add(method.getName());
                continue;
            }
            Check.dueTrue(method + " is public and no static", Modifier.isPublic(method.getModifiers())
                    && !Modifier.isStatic(method.getModifiers()));
            StringBuilder told = new StringBuilder();
            told.append(method.getReturnType()).append(' ').append(method.getName()).append('(');
            String join = "";
            for (Class<?> type : method.getParameterTypes()) {
                told.append(join).append(type);
                join = ",";
            }
            got.add(told.append(')').toString());
        }
        Check.dueTrue("the methods are " + got, got.equals(new TreeSet<>(Arrays.asList(FACE))));
        for (String face : FACE) {
            String name = face.substring(face.indexOf(' ') + 1, face.indexOf('('));
            Check.dueTrue("no private method is named " + name, !privates.contains(name));
        }
    }

    private static void constants() throws IllegalAccessException {
        TreeSet<String> got = new TreeSet<>();
        for (Field field : FlagWash.class.getDeclaredFields()) {
            if (!Modifier.isPrivate(field.getModifiers())) {
                Check.dueTrue(field + " is a constant", Modifier.isPublic(field.getModifiers())
                        && Modifier.isStatic(field.getModifiers()) && Modifier.isFinal(field.getModifiers())
                        && field.getType() == int.class);
                got.add(field.getName() + "=" + field.getInt(null));
            }
        }
        Check.dueTrue("the constants are " + got, got.equals(new TreeSet<>(Arrays.asList(CONSTANTS))));
    }

    private static void constructor() {
        Constructor<?>[] made = FlagWash.class.getDeclaredConstructors();
        Check.due("constructors", made.length, 1);
        Check.dueTrue("it is public, without arguments",
                Modifier.isPublic(made[0].getModifiers()) && made[0].getParameterCount() == 0);
        Check.dueTrue("the class is public and final", Modifier.isPublic(FlagWash.class.getModifiers())
                && Modifier.isFinal(FlagWash.class.getModifiers()));
    }

    private static void innerClasses() {
        Class<?>[] inside = FlagWash.class.getDeclaredClasses();
        Check.dueTrue("at most twelve classes", inside.length + 1 <= 12);
        for (Class<?> one : inside) {
            Check.dueTrue(one + " is static", Modifier.isStatic(one.getModifiers()));
            Check.dueTrue(one + " is not of the face", !Modifier.isPublic(one.getModifiers()));
            Check.dueTrue(one + " has few fields", fieldsThatAreNoConstants(one) <= 20);
            Check.due(one + ": classes inside it", one.getDeclaredClasses().length, 0);
            for (Method method : one.getDeclaredMethods()) {
                Check.dueTrue(method + " bears no name of the face", !isOfFace(method.getName()));
                Check.dueTrue(method + " takes at most seven", method.getParameterCount() <= 7);
            }
        }
        Check.dueTrue("FlagWash has few fields", fieldsThatAreNoConstants(FlagWash.class) <= 20);
    }

    private static boolean isOfFace(String name) {
        return Arrays.stream(FACE).anyMatch(face -> face.contains(" " + name + "("));
    }

    private static int fieldsThatAreNoConstants(Class<?> one) {
        int fields = 0;
        for (Field field : one.getDeclaredFields()) {
            boolean isStatic = Modifier.isStatic(field.getModifiers());
            Check.dueTrue(field + ", if static, is final", !isStatic || Modifier.isFinal(field.getModifiers()));
            fields += isStatic ? 0 : 1;
        }
        return fields;
    }

    private static void source() throws IOException {
        String source = Files.readString(Path.of("src/main/java/FlagWash.java"));
        String code = source.replaceAll("(?s)/\\*.*?\\*/", "").replaceAll("//[^\n]*", "");
        for (String barred : BARRED) {
            Check.dueTrue("no " + barred, !Pattern.compile(barred).matcher(code).find());
        }
        int start = 0;
        List<String> lines = code.lines().toList();
        for (int i = 0; i < lines.size(); i++) {
            if (lines.get(i).matches("(    ){1,2}(?!private static final class).*\\) \\{")) {
                start = i;
            }
            if (lines.get(i).matches("(    ){1,2}\\}")) {
                Check.dueTrue("short: " + lines.get(start), i - start <= 60);
                start = i;
            }
        }
    }
}
