import java.io.IOException;
import java.lang.reflect.Constructor;
import java.lang.reflect.Field;
import java.lang.reflect.Method;
import java.lang.reflect.Modifier;
import java.nio.file.Files;
import java.nio.file.Path;
import java.util.Arrays;
import java.util.Comparator;
import java.util.List;
import java.util.Random;
import java.util.Set;
import java.util.TreeSet;
import java.util.regex.Matcher;
import java.util.regex.Pattern;
import java.util.stream.Collectors;

/** The face of the class, and the rules of LANGUAGE.md that a program can look at. */
public final class LanguageTest {
    private static final Set<String> FACE = new TreeSet<>(Arrays.asList(
            "int row(int,int,int)", "int set(int,int,int)", "int copy(int,int,int,int,int)", "int drop(int)",
            "int feed(int)", "int land()", "int fault()", "int undo()", "int hours(int)", "int wish(int,int,int)",
            "int rest(int,int)", "int wisher(int,int)", "int place(int,int)", "int far(int,int)", "int ahead(int,int)",
            "int comes(int,int)", "int visits(int)", "int fewest(int,int,int)", "int hard(int,int)",
            "int stolen(int,int,int)", "int seen(int,int,int,int)", "int who(int,int,int,int)", "int round(int)",
            "int half(int)", "long awake(int,int)", "int drawn(int,int,int)", "int image(int)", "int restore(int)",
            "int kind(int)", "int as(int,int)", "int ask(int,int)", "int trace(int)", "int count(int)", "int status()"));
    private static final Set<String> CONSTANTS = Set.of("NONE", "BAD", "STATE", "FULL");
    private static final Set<String> LIBRARY = Set.of("Math.max", "Math.min", "Integer.bitCount", "System.arraycopy");

    private static int wrong = 0;

    private static void rule(boolean kept, String what) {
        if (!kept) {
            wrong++;
            System.out.println("LanguageTest: " + what);
        }
    }

    private static void face() {
        Set<String> got = new TreeSet<>();
        for (Method method : BlueHue.class.getDeclaredMethods()) {
            if (Modifier.isPublic(method.getModifiers())) {
                String takes = Arrays.stream(method.getParameterTypes()).map(Class::getName).collect(Collectors.joining(","));
                got.add(method.getReturnType().getName() + " " + method.getName() + "(" + takes + ")");
            } else {
                rule(Modifier.isPrivate(method.getModifiers()), method + " is neither public nor private");
            }
        }
        rule(got.equals(FACE), "the face is " + got);
        rule(Modifier.isPublic(BlueHue.class.getModifiers()) && Modifier.isFinal(BlueHue.class.getModifiers()), "not public final");
        Constructor<?>[] made = BlueHue.class.getDeclaredConstructors();
        rule(made.length == 1 && Modifier.isPublic(made[0].getModifiers()) && made[0].getParameterCount() == 0, "constructors");
        for (Field field : BlueHue.class.getDeclaredFields()) {
            rule(Modifier.isPrivate(field.getModifiers()) != CONSTANTS.contains(field.getName()), field + " is seen or hidden");
        }
    }

    private static void classes() {
        Set<String> calls = Arrays.stream(BlueHue.class.getDeclaredMethods())
                .filter(m -> Modifier.isPublic(m.getModifiers())).map(Method::getName).collect(Collectors.toSet());
        List<Class<?>> all = new java.util.ArrayList<>(Arrays.asList(BlueHue.class.getDeclaredClasses()));
        rule(all.size() < 12, "too many classes");
        for (Class<?> inside : all) {
            rule(Modifier.isStatic(inside.getModifiers()) && Modifier.isPrivate(inside.getModifiers()), inside + " is not private static");
        }
        all.add(BlueHue.class);
        for (Class<?> one : all) {
            long fields = Arrays.stream(one.getDeclaredFields()).filter(f -> !Modifier.isStatic(f.getModifiers())).count();
            rule(fields <= 20, one + " has " + fields + " fields");
            for (Field field : one.getDeclaredFields()) {
                rule(!Modifier.isStatic(field.getModifiers()) || Modifier.isFinal(field.getModifiers()), field + " is static state");
            }
            for (Method method : one.getDeclaredMethods()) {
                rule(method.getParameterCount() <= 7, method + " takes too many");
                rule(Modifier.isPublic(method.getModifiers()) || !calls.contains(method.getName()), method + " bears the name of a call");
            }
        }
    }

    private static void words(String source) {
        String code = source.replaceAll("(?s)/\\*.*?\\*/", "").replaceAll("//[^\n]*", "");
        String[] never = {"import", "package", "throw", "throws", "try", "catch", "finally", "synchronized", "assert",
            "float", "double", "record", "var", "native", "volatile", "Object", "hashCode", "toString", "equals"};
        for (String word : never) {
            rule(!Pattern.compile("\\b" + word + "\\b").matcher(code).find(), "the word " + word);
        }
        for (String sign : new String[] {"->", "::", "\"", "@", "static {"}) {
            rule(!code.contains(sign), "the sign " + sign);
        }
        rule(source.chars().allMatch(c -> c == '\n' || c >= 32 && c < 127), "a sign beyond the plain ones");
        Matcher library = Pattern.compile("\\b(Math|Integer|Long|System|Arrays|String)\\.\\w+").matcher(code);
        while (library.find()) {
            rule(LIBRARY.contains(library.group()), "the library's " + library.group());
        }
    }

    /** Objects are made with an object alone: in its fields' lines and its constructor. */
    private static void made(List<String> lines) {
        boolean constructor = false;
        for (String line : lines) {
            if (line.matches("\\s+(public )?[A-Z]\\w*\\(\\) \\{")) {
                constructor = true;
            } else if (line.matches(" {4}( {4})?\\}")) {
                constructor = false;
            }
            boolean field = line.contains(" final ") && line.contains("= new ");
            rule(!line.matches(".*\\bnew\\b.*") || line.contains("/**") || field || constructor, "made in a call: " + line.trim());
        }
    }

    private static void lengths(List<String> lines) {
        int start = -1;
        for (int i = 0; i < lines.size(); i++) {
            String line = lines.get(i);
            if (start < 0 && line.matches("( {4}| {8})[\\w<>\\[\\] ]+\\([^()]*\\) \\{")) {
                start = i;
            }
            if (start >= 0 && line.matches(" *\\}") && line.indexOf('}') == indent(lines.get(start))) {
                rule(i - start < 60, "a long method: " + lines.get(start).trim());
                start = -1;
            }
        }
        rule(lines.stream().max(Comparator.comparingInt(String::length)).get().length() <= 130, "a long line");
    }

    /** No call throws, whatever it is given, without a land and with one. */
    private static void neverThrows() throws ReflectiveOperationException {
        Random draw = new Random(7);
        int[] given = {Integer.MIN_VALUE, Integer.MIN_VALUE + 1, -2, -1, 0, 1, 2, 5, 6, 7, 8, 12, 13, 24, 39, 40, 41, 60, 61,
            255, 999999, Integer.MAX_VALUE - 1, Integer.MAX_VALUE};
        String text = "c6,0,3,2;r0,1;r1,2;r2,3;a0,2,12,0,6;w3,3,9,1,3;t1,0,8,0,6;k2,1,10,2,2;b0,3,6,2,4;k5,4,40,0,6;";
        Method[] calls = BlueHue.class.getDeclaredMethods();
        for (int run = 0; run < 400; run++) {
            BlueHue x = new BlueHue();
            for (int i = 0; i < text.length() && run % 4 != 0; i++) {
                x.feed(text.charAt(i));
            }
            x.land();
            for (int k = 0; k < 400; k++) {
                Method call = calls[draw.nextInt(calls.length)];
                if (Modifier.isPublic(call.getModifiers())) {
                    Object[] with = new Object[call.getParameterCount()];
                    for (int i = 0; i < with.length; i++) {
                        with[i] = given[draw.nextInt(3) == 0 ? draw.nextInt(given.length) : 4 + draw.nextInt(4)];
                    }
                    call.invoke(x, with);
                }
            }
        }
    }

    private static int indent(String line) {
        return line.length() - line.stripLeading().length();
    }

    public static void main(String[] args) throws IOException, ReflectiveOperationException {
        Path file = Path.of("src/main/java/BlueHue.java");
        face();
        classes();
        words(Files.readString(file));
        made(Files.readAllLines(file));
        lengths(Files.readAllLines(file));
        neverThrows();
        System.out.println("LanguageTest: " + wrong + " rules broken");
        if (wrong != 0) {
            System.exit(1);
        }
    }
}
