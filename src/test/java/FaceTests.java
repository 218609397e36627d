import java.io.IOException;
import java.lang.reflect.Constructor;
import java.lang.reflect.Field;
import java.lang.reflect.Method;
import java.lang.reflect.Modifier;
import java.nio.charset.StandardCharsets;
import java.nio.file.Files;
import java.nio.file.Path;
import java.util.TreeSet;
import java.util.regex.Matcher;
import java.util.regex.Pattern;

/** The public face, word by word, and those rules of the language that can be seen from outside. */
public final class FaceTests {
    private static final String[] FACE = {
        "int say(int)", "int wipe()", "int fault(int)", "int born(int,int)", "int exile(int)",
        "int plan()", "int today(int,int)", "int same(int,int)", "int next(int,int,int)",
        "int meet(int,int,int)", "int shared(int,int)", "int never(int)", "int market(int,int,int)",
        "int can(int,int)", "int month(int,int)", "int barred()", "int why(int)",
        "int common(int,int,int)", "int wedding(int,int,int)", "int best(int,int)",
        "int feast(int)", "int feasts(int)", "int poor()", "int twins(int)",
        "int oneOrder(int,int)", "int seen(int,int)", "int forget()", "int whose(int)",
        "int sure(int)", "long chance(int,int,int)", "long shares(int,int,int)",
        "int year(int,int,int)", "int image(int)", "int restore(int)", "int told(int)"};
    private static final String[] CONSTANTS = {
        "int NONE", "int UNKNOWN", "int OUTSIDE", "int STATE", "int FULL", "int NO", "long LOST"};
    private static final Path SOURCE = Path.of("src/main/java/WeekOrders.java");

    private static int wrong = 0;

    private static void hold(String what, boolean holds) {
        if (!holds) {
            wrong++;
            System.out.println("does not hold: " + what);
        }
    }

    private static String withParameters(Method method) {
        StringBuilder text = new StringBuilder(method.getReturnType() + " " + method.getName() + "(");
        for (Class<?> type : method.getParameterTypes()) {
            text.append(text.charAt(text.length() - 1) == '(' ? "" : ",").append(type);
        }
        return text.append(')').toString();
    }

    private static void members(Class<?> type) {
        TreeSet<String> methods = new TreeSet<>();
        TreeSet<String> names = new TreeSet<>();
        for (Method method : type.getDeclaredMethods()) {
            if (Modifier.isPublic(method.getModifiers())) {
                methods.add(withParameters(method));
                names.add(method.getName());
                hold(method + " is of an object", !Modifier.isStatic(method.getModifiers()));
            }
        }
        hold("the methods are the document's: " + methods, methods.equals(new TreeSet<>(java.util.Arrays.asList(FACE))));
        for (Method method : type.getDeclaredMethods()) {
            boolean isPublic = Modifier.isPublic(method.getModifiers());
            hold(method + " is public or private", isPublic || Modifier.isPrivate(method.getModifiers()));
            hold(method + " bears no public name", isPublic || !names.contains(method.getName()));
        }
        for (Class<?> inner : type.getDeclaredClasses()) {
            hold(inner + " is static", Modifier.isStatic(inner.getModifiers()));
            hold(inner + " is not public", !Modifier.isPublic(inner.getModifiers()));
            for (Method method : inner.getDeclaredMethods()) {
                hold(method + " bears no public name", !names.contains(method.getName()));
            }
        }
    }

    private static void constants(Class<?> type) {
        TreeSet<String> found = new TreeSet<>();
        for (Field field : type.getDeclaredFields()) {
            int is = field.getModifiers();
            if (Modifier.isPublic(is)) {
                found.add(field.getType() + " " + field.getName());
            }
            hold(field + " is private or a constant",
                Modifier.isPrivate(is) || Modifier.isPublic(is) && Modifier.isStatic(is) && Modifier.isFinal(is));
            hold(field + " is final, if static", !Modifier.isStatic(is) || Modifier.isFinal(is));
        }
        hold("the constants are the document's: " + found, found.equals(new TreeSet<>(java.util.Arrays.asList(CONSTANTS))));
    }

    /** What rules 5 and 11 allow of a class: static fields that are constants, parameters, fields, classes. */
    private static void bounds(Class<?> type) {
        hold("at most twelve classes", type.getDeclaredClasses().length + 1 <= 12);
        boundsOfOne(type);
        for (Class<?> inner : type.getDeclaredClasses()) {
            boundsOfOne(inner);
        }
    }

    private static void boundsOfOne(Class<?> type) {
        int fields = 0;
        for (Field field : type.getDeclaredFields()) {
            boolean isConstant = Modifier.isStatic(field.getModifiers());
            fields += isConstant ? 0 : 1;
            hold(field + " is a number or a text, if static", !isConstant || field.getType() == int.class
                || field.getType() == long.class || field.getType() == String.class);
            hold(field + " is final, if static", !isConstant || Modifier.isFinal(field.getModifiers()));
        }
        hold(type + " has at most twenty fields", fields <= 20);
        for (Method method : type.getDeclaredMethods()) {
            hold(method + " has at most seven parameters", method.getParameterCount() <= 7);
        }
    }

    private static void words(String source) {
        String[] unwanted = {
            "\\bimport\\b", "\\bpackage\\b", "->", "::", "\\bfinally\\b", "\\bsynchronized\\b",
            "\\bassert\\b", "\\btry\\b", "\\bcatch\\b", "\\bthrows?\\b", "\\bprotected\\b",
            "\\bequals\\b", "\\bhashCode\\b", "\\btoString\\b", "Exact\\b", "\\bnative\\b",
            "System\\.(?!arraycopy)", "\\bdouble\\b", "\\bfloat\\b", "[^\\x00-\\x7f]"};
        String code = source.replaceAll("(?s)/\\*.*?\\*/", "").replaceAll("//[^\\n]*", "");
        for (String word : unwanted) {
            Matcher matcher = Pattern.compile(word).matcher(code);
            hold("the source does without " + word, !matcher.find());
        }
    }

    /** A method begins four or eight columns in and ends with a brace there. */
    private static void lengths(String source) {
        int begun = -1;
        String indent = "";
        String[] lines = source.split("\n");
        for (int i = 0; i < lines.length; i++) {
            String line = lines[i];
            boolean begins = line.matches("( {4}| {8})[^ ].*\\) \\{") && !line.contains(" class ");
            if (begun < 0 && begins) {
                begun = i;
                indent = line.substring(0, line.length() - line.stripLeading().length());
            } else if (begun >= 0 && line.equals(indent + "}")) {
                hold("short: " + lines[begun].trim(), i - begun < 60);
                begun = -1;
            }
        }
    }

    public static void main(String[] args) throws IOException {
        Class<?> type = WeekOrders.class;
        hold("public and final", Modifier.isPublic(type.getModifiers()) && Modifier.isFinal(type.getModifiers()));
        hold("no class above but Object", type.getSuperclass() == Object.class && type.getInterfaces().length == 0);
        Constructor<?>[] constructors = type.getDeclaredConstructors();
        hold("one public constructor", constructors.length == 1
            && Modifier.isPublic(constructors[0].getModifiers()) && constructors[0].getParameterCount() == 0);
        members(type);
        constants(type);
        bounds(type);
        String source = Files.readString(SOURCE, StandardCharsets.UTF_8);
        words(source);
        lengths(source);
        System.out.println(wrong == 0 ? "the face is as due" : wrong + " wrong");
        if (wrong != 0) {
            System.exit(1);
        }
    }
}
