import java.io.IOException;
import java.lang.management.ManagementFactory;
import java.lang.reflect.Constructor;
import java.lang.reflect.Field;
import java.lang.reflect.Method;
import java.lang.reflect.Modifier;
import java.nio.file.Files;
import java.nio.file.Path;
import java.util.Arrays;
import java.util.List;
import java.util.Random;
import java.util.Set;
import java.util.TreeSet;
import java.util.regex.Matcher;
import java.util.regex.Pattern;
import java.util.stream.Collectors;

/** The face of the class, and the rules of LANGUAGE.md that a program can look at. */
public final class LanguageTest {
    private static final Set<String> FACE = new TreeSet<>(Arrays.asList(
            "int row(int,int,int)", "int set(int,int,int)", "int copy(int,int,int,int,int)", "int drop(int)",
            "int feed(int)", "int land()", "int fault()", "int undo()", "int hours(int)", "int wish(int,int,int)",
            "int rest(int,int)", "int wisher(int,int)", "int place(int,int)", "int far(int,int)", "int ahead(int,int)",
            "int comes(int,int)", "int visits(int)", "int fewest(int,int,int)", "int hard(int,int)",
            "int stolen(int,int,int)", "int seen(int,int,int,int)", "int who(int,int,int,int)", "int round(int)",
            "int half(int)", "long awake(int,int)", "int drawn(int,int,int)", "int image(int)", "int restore(int)",
            "int kind(int)", "int as(int,int)", "int ask(int,int)", "int trace(int)", "int count(int)", "int status()"));
    private static final Set<String> CONSTANTS = Set.of("NONE", "BAD", "STATE", "FULL");
    private static final Set<String> LIBRARY = Set.of("System.arraycopy", "Arrays.copyOf", "Arrays.copyOfRange", "Arrays.fill", "List.of");
    /** Bytes of the whole room: 600,000 objects and 7.3 million fields and elements. */
    private static final long ROOM = 600_000L * 16 + 7_300_000L * 4;

    private static int wrong = 0;

    private static void rule(boolean kept, String what) {
        if (!kept) {
            wrong++;
            System.out.println("LanguageTest: " + what);
        }
    }

    private static void face() {
        Set<String> got = new TreeSet<>();
        for (Method method : BlueHue.class.getDeclaredMethods()) {
            if (Modifier.isPublic(method.getModifiers())) {
                String takes = Arrays.stream(method.getParameterTypes()).map(Class::getName).collect(Collectors.joining(","));
                got.add(method.getReturnType().getName() + " " + method.getName() + "(" + takes + ")");
            } else {
                rule(Modifier.isPrivate(method.getModifiers()), method + " is neither public nor private");
            }
        }
        rule(got.equals(FACE), "the face is " + got);
        rule(Modifier.isPublic(BlueHue.class.getModifiers()) && Modifier.isFinal(BlueHue.class.getModifiers()), "not public final");
        Constructor<?>[] made = BlueHue.class.getDeclaredConstructors();
        rule(made.length == 1 && Modifier.isPublic(made[0].getModifiers()) && made[0].getParameterCount() == 0, "constructors");
        for (Field field : BlueHue.class.getDeclaredFields()) {
            rule(Modifier.isPrivate(field.getModifiers()) != CONSTANTS.contains(field.getName()), field + " is seen or hidden");
        }
    }

    private static void classes() {
        Set<String> calls = Arrays.stream(BlueHue.class.getDeclaredMethods())
                .filter(m -> Modifier.isPublic(m.getModifiers())).map(Method::getName).collect(Collectors.toSet());
        List<Class<?>> all = new java.util.ArrayList<>(Arrays.asList(BlueHue.class.getDeclaredClasses()));
        rule(all.size() <= 12, "too many classes");
        for (Class<?> inside : all) {
            int modifiers = inside.getModifiers();
            rule(Modifier.isStatic(modifiers), inside + " is not static");
            rule(!Modifier.isPublic(modifiers) && !Modifier.isProtected(modifiers), inside + " is seen from without");
        }
        all.add(BlueHue.class);
        for (Class<?> one : all) {
            long fields = Arrays.stream(one.getDeclaredFields()).filter(f -> !Modifier.isStatic(f.getModifiers())).count();
            rule(fields <= 20, one + " has " + fields + " fields");
            for (Field field : one.getDeclaredFields()) {
                rule(!Modifier.isStatic(field.getModifiers()) || Modifier.isFinal(field.getModifiers()), field + " is static state");
            }
            for (Method method : one.getDeclaredMethods()) {
                rule(method.getParameterCount() <= 7, method + " takes too many");
                rule(!Modifier.isPrivate(method.getModifiers()) || !calls.contains(method.getName()), method + " bears the name of a call");
            }
        }
    }

    private static void words(String source) {
        String code = source.replaceAll("(?s)/\\*.*?\\*/", "").replaceAll("//[^\n]*", "");
        String[] never = {"package", "throw", "throws", "try", "catch", "finally", "synchronized", "assert", "native", "volatile",
            "Object", "Thread", "Random", "hashCode", "interrupt", "currentTimeMillis", "nanoTime"};
        for (String word : never) {
            rule(!Pattern.compile("\\b" + word + "\\b").matcher(code).find(), "the word " + word);
        }
        rule(!code.contains("::"), "a method reference");
        rule(!Pattern.compile("\\bstatic\\s*\\{").matcher(code).find(), "a static block");
        rule(source.chars().allMatch(c -> c == '\n' || c >= 32 && c < 127), "a sign beyond the plain ones");
        Matcher brought = Pattern.compile("\\bimport\\s+([\\w.*]+)").matcher(code);
        while (brought.find()) {
            rule(brought.group(1).matches("java\\.util\\.(ArrayList|List|Arrays|Iterator)"), "the import of " + brought.group(1));
        }
        Matcher library = Pattern.compile("\\b(Math|Integer|Long|System|Arrays|List)\\.(\\w+)").matcher(code);
        while (library.find()) {
            boolean numbers = library.group(1).matches("Math|Integer|Long") && !library.group(2).endsWith("Exact");
            rule(numbers || LIBRARY.contains(library.group()), "the library's " + library.group());
        }
    }

    /** What a run of the dearest calls makes, the object too, stays far below the room that all calls live in. */
    private static void room() {
        if (!(ManagementFactory.getThreadMXBean() instanceof com.sun.management.ThreadMXBean)) {
            return;
        }
        com.sun.management.ThreadMXBean counter = (com.sun.management.ThreadMXBean) ManagementFactory.getThreadMXBean();
        String text = "c6,0,3,2;r0,1;r1,2;r2,3;a0,2,12,0,6;w3,3,9,1,3;t1,0,8,0,6;k2,1,10,2,2;b0,3,6,2,4;k5,4,40,0,6;";
        long before = counter.getThreadAllocatedBytes(Thread.currentThread().getId());
        BlueHue x = new BlueHue();
        for (int i = 0; i < text.length(); i++) {
            x.feed(text.charAt(i));
        }
        x.land();
        x.row(0, 2, 40);
        for (int k = text.length() + 2; k < 512; k += 16) {
            x.fewest(5, 24, 1);
            x.hard(0, 24);
            x.round(1);
            x.stolen(0, 60, 24);
            x.awake(3, 1);
            x.drawn(60, 999999, 0);
            x.seen(0, 0, 12, 0);
            x.who(0, 0, 0, 12);
            x.hours(24);
            x.visits(60);
            x.half(60);
            x.comes(5, 60);
            x.image(0);
            x.restore(0);
            x.ask(1, 0);
            x.row(1, 2, 40);
        }
        long made = counter.getThreadAllocatedBytes(Thread.currentThread().getId()) - before;
        rule(made < ROOM, "a run makes " + made + " bytes");
    }

    private static void lengths(List<String> lines) {
        int start = -1;
        for (int i = 0; i < lines.size(); i++) {
            String line = lines.get(i);
            if (start < 0 && line.matches("( {4}| {8})[\\w<>\\[\\] ]+\\([^()]*\\) \\{")) {
                start = i;
            }
            if (start >= 0 && line.matches(" *\\}") && line.indexOf('}') == indent(lines.get(start))) {
                rule(i - start < 60, "a long method: " + lines.get(start).trim());
                start = -1;
            }
        }
    }

    /** No call throws, whatever it is given, without a land and with one. */
    private static void neverThrows() throws ReflectiveOperationException {
        Random draw = new Random(7);
        int[] given = {Integer.MIN_VALUE, Integer.MIN_VALUE + 1, -2, -1, 0, 1, 2, 5, 6, 7, 8, 12, 13, 24, 39, 40, 41, 60, 61,
            255, 999999, Integer.MAX_VALUE - 1, Integer.MAX_VALUE};
        String text = "c6,0,3,2;r0,1;r1,2;r2,3;a0,2,12,0,6;w3,3,9,1,3;t1,0,8,0,6;k2,1,10,2,2;b0,3,6,2,4;k5,4,40,0,6;";
        Method[] calls = BlueHue.class.getDeclaredMethods();
        for (int run = 0; run < 400; run++) {
            BlueHue x = new BlueHue();
            for (int i = 0; i < text.length() && run % 4 != 0; i++) {
                x.feed(text.charAt(i));
            }
            x.land();
            for (int k = 0; k < 400; k++) {
                Method call = calls[draw.nextInt(calls.length)];
                if (Modifier.isPublic(call.getModifiers())) {
                    Object[] with = new Object[call.getParameterCount()];
                    for (int i = 0; i < with.length; i++) {
                        with[i] = given[draw.nextInt(3) == 0 ? draw.nextInt(given.length) : 4 + draw.nextInt(4)];
                    }
                    call.invoke(x, with);
                }
            }
        }
    }

    private static int indent(String line) {
        return line.length() - line.stripLeading().length();
    }

    public static void main(String[] args) throws IOException, ReflectiveOperationException {
        Path file = Path.of("src/main/java/BlueHue.java");
        face();
        classes();
        words(Files.readString(file));
        room();
        lengths(Files.readAllLines(file));
        neverThrows();
        System.out.println("LanguageTest: " + wrong + " rules broken");
        if (wrong != 0) {
            System.exit(1);
        }
    }
}
