import java.io.IOException;
import java.lang.reflect.Executable;
import java.lang.reflect.Field;
import java.lang.reflect.Method;
import java.lang.reflect.Modifier;
import java.nio.file.Files;
import java.nio.file.Path;
import java.util.ArrayList;
import java.util.Arrays;
import java.util.List;
import java.util.TreeSet;
import java.util.regex.Matcher;
import java.util.regex.Pattern;

/** The rules of ../shared/LANGUAGE.md, as far as the class and its text show by themselves whether they are kept. */
public final class LanguageTest {
    private static final Due DUE = new Due("LanguageTest");
    private static final Path SOURCE = Path.of("src", "main", "java", "PledgeHouse.java");
    private static final int MOST_CLASSES = 12;
    private static final int MOST_FIELDS = 20;
    private static final int MOST_PARAMETERS = 7;
    private static final int MOST_LINES = 60;

    public static void main(String[] args) throws IOException {
        List<Class<?>> classes = classes();
        String code = code();
        rule1ClassesInside(classes);
        rule3Types(classes);
        rule4Library(classes, code);
        rule5StaticFields(classes);
        ruledOutWords(code);
        rule9Loops(code);
        rule11Sizes(classes);
        rule11Lines(classes, code);
        DUE.end();
    }

    private static void holds(String what, boolean holds) {
        DUE.is(what, holds ? 1 : 0, 1);
    }

    private static List<Class<?>> classes() {
        List<Class<?>> classes = new ArrayList<>();
        classes.add(PledgeHouse.class);
        classes.addAll(Arrays.asList(PledgeHouse.class.getDeclaredClasses()));
        return classes;
    }

    /** The text without comments and texts. */
    private static String code() throws IOException {
        return Files.readString(SOURCE).replaceAll("(?s)/\\*.*?\\*/", "").replaceAll("//[^\n]*", "")
            .replaceAll("\"(\\\\.|[^\"\\\\])*\"", "\"\"");
    }

    private static void rule1ClassesInside(List<Class<?>> classes) {
        for (Class<?> c : classes.subList(1, classes.size())) {
            int m = c.getModifiers();
            holds("1: " + c + " is static", Modifier.isStatic(m));
            holds("1: " + c + " is private or package-visible", !Modifier.isPublic(m) && !Modifier.isProtected(m));
            DUE.is("2: classes inside " + c, c.getDeclaredClasses().length, 0);
        }
        TreeSet<String> face = new TreeSet<>();
        for (Method m : PledgeHouse.class.getMethods()) {
            face.add(m.getName());
        }
        for (Class<?> c : classes) {
            for (Method m : c.getDeclaredMethods()) {
                holds("1: private " + m + " has a name of its own",
                    !Modifier.isPrivate(m.getModifiers()) || !face.contains(m.getName()));
                holds("2: " + m + " was not made by the compiler", !m.isSynthetic());
            }
        }
    }

    private static void rule3Types(List<Class<?>> classes) {
        for (Class<?> c : classes) {
            for (Field f : c.getDeclaredFields()) {
                holds("3: the type of " + f, isAllowed(f.getType(), classes));
            }
            for (Method m : c.getDeclaredMethods()) {
                holds("3: what " + m + " answers", m.getReturnType() == void.class
                    || isAllowed(m.getReturnType(), classes));
                for (Class<?> type : m.getParameterTypes()) {
                    holds("3: a parameter of " + m, isAllowed(type, classes));
                }
            }
        }
    }

    /** Numbers, own classes and arrays of these with one dimension: the class needs no other. */
    private static boolean isAllowed(Class<?> type, List<Class<?>> classes) {
        Class<?> one = type.isArray() ? type.getComponentType() : type;
        return one.isPrimitive() || classes.contains(one);
    }

    private static void rule4Library(List<Class<?>> classes, String code) {
        TreeSet<String> known = new TreeSet<>();
        for (Class<?> c : classes) {
            known.add(c.getSimpleName());
        }
        Matcher names = Pattern.compile("\\b[A-Z]\\w*[a-z]\\w*").matcher(code);
        while (names.find()) {
            holds("4: the class " + names.group(), known.contains(names.group()) || names.group().equals("Math"));
        }
        Matcher functions = Pattern.compile("\\bMath\\s*\\.\\s*(\\w+)").matcher(code);
        while (functions.find()) {
            holds("4: " + functions.group(), functions.group(1).equals("min") || functions.group(1).equals("max"));
        }
        holds("4: nothing is imported", !Pattern.compile("\\b(import|package)\\b").matcher(code).find());
    }

    private static void rule5StaticFields(List<Class<?>> classes) {
        for (Class<?> c : classes) {
            for (Field f : c.getDeclaredFields()) {
                if (Modifier.isStatic(f.getModifiers())) {
                    holds("5: " + f + " is final", Modifier.isFinal(f.getModifiers()));
                    holds("5: " + f + " is an int or a row of these",
                        f.getType() == int.class || f.getType() == int[].class);
                }
            }
        }
    }

    private static void ruledOutWords(String code) {
        String[] words = {"throw", "throws", "try", "catch", "finally", "synchronized", "assert", "native", "volatile",
            "transient", "strictfp", "yield", "var", "while", "double", "equals", "hashCode", "toString"};
        for (String word : words) {
            holds("the word " + word, !Pattern.compile("\\b" + word + "\\b").matcher(code).find());
        }
        for (String mark : new String[] {"->", "::", "@", "\"", "'", ">>", "<<", "static {"}) {
            holds("the mark " + mark, !code.contains(mark));
        }
    }

    /** A counter against a bound, an array's values, or a chain that ends with null. */
    private static void rule9Loops(String code) {
        Matcher loops = Pattern.compile("\\bfor \\(([^{]*)\\) \\{").matcher(code);
        int found = 0;
        while (loops.find()) {
            found++;
            String head = loops.group(1);
            holds("9: for (" + head + ")", head.matches("int (\\w+) = \\d+; \\1 <=? .*; \\1\\+\\+")
                || head.matches("int \\w+ : \\w+")
                || head.matches("\\w+ (\\w+) = this; \\1 != null; \\1 = \\1\\.before"));
        }
        Matcher all = Pattern.compile("\\b(for|do)\\b").matcher(code);
        int heads = 0;
        while (all.find()) {
            heads++;
        }
        DUE.is("9: loops that were read", found, heads);
    }

    private static void rule11Sizes(List<Class<?>> classes) {
        holds("11: " + classes.size() + " classes", classes.size() <= MOST_CLASSES);
        for (Class<?> c : classes) {
            int fields = 0;
            for (Field f : c.getDeclaredFields()) {
                fields += Modifier.isStatic(f.getModifiers()) ? 0 : 1;
            }
            holds("11: " + fields + " fields of " + c, fields <= MOST_FIELDS);
            List<Executable> calls = new ArrayList<>(Arrays.asList(c.getDeclaredMethods()));
            calls.addAll(Arrays.asList(c.getDeclaredConstructors()));
            for (Executable call : calls) {
                holds("11: parameters of " + call, call.getParameterCount() <= MOST_PARAMETERS);
            }
        }
    }

    /** A method's or constructor's head ends with a brace, and its last line is a brace with the same indent. */
    private static void rule11Lines(List<Class<?>> classes, String code) {
        int due = 0;
        for (Class<?> c : classes) {
            for (Method m : c.getDeclaredMethods()) {
                due += Modifier.isAbstract(m.getModifiers()) ? 0 : 1;
            }
        }
        Matcher bodies = Pattern
            .compile("(?m)^( {4}| {8})\\w[^\n;=.]*\\([^\n;]*\\) \\{\n(?s:.*?)^\\1\\}\n")
            .matcher(code);
        int read = 0;
        while (bodies.find()) {
            read++;
            int lines = bodies.group().split("\n").length;
            holds("11: " + lines + " lines of " + bodies.group().trim().split("\n")[0], lines <= MOST_LINES);
        }
        holds("11: the bodies of all methods were read: " + read, read >= due);
    }
}
