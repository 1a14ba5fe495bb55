import java.lang.reflect.Constructor;
import java.lang.reflect.Field;
import java.lang.reflect.Method;
import java.lang.reflect.Modifier;
import java.nio.file.Files;
import java.nio.file.Path;
import java.util.Arrays;
import java.util.HashSet;
import java.util.List;
import java.util.Random;
import java.util.Set;
import java.util.TreeSet;
import java.util.regex.Matcher;
import java.util.regex.Pattern;

/** The face that the document tells, and the rules of LANGUAGE.md that can be looked at from here. */
public final class LanguageTests {
    private static final Path SOURCE = Path.of("src/main/java/TwoTuesdays.java");
    private static final Path DOCUMENT = Path.of("../shared/DOC.md");

    private static int wrong = 0;

    private static void due(boolean is, String rule) {
        if (!is) {
            wrong++;
            System.out.println("broken: " + rule);
        }
    }

    public static void main(String[] args) throws Exception {
        face();
        classesInside();
        source(Files.readString(SOURCE));
        nothingThrows();
        nothingIsMadeByCalls();
        if (wrong != 0) {
            System.exit(1);
        }
        System.out.println("the rules that were looked at are kept");
    }

    private static String signature(String type, String name, String types) {
        return type + " " + name + "(" + types + ")";
    }

    private static void face() throws Exception {
        Set<String> told = new TreeSet<>();
        Pattern line = Pattern.compile("^ {4}public (int|long) (\\w+)\\(([^)]*)\\);$", Pattern.MULTILINE);
        Matcher matcher = line.matcher(Files.readString(DOCUMENT));
        while (matcher.find()) {
            told.add(signature(matcher.group(1), matcher.group(2), matcher.group(3).replaceAll("int \\w+", "int").replace(" ", "")));
        }
        due(told.size() == 43, "the document tells 43 methods");
        Set<String> there = new TreeSet<>();
        Set<String> publicNames = new HashSet<>();
        Set<String> privateNames = new HashSet<>();
        for (Method method : TwoTuesdays.class.getDeclaredMethods()) {
            boolean isPrivate = Modifier.isPrivate(method.getModifiers());
            (isPrivate ? privateNames : publicNames).add(method.getName());
            if (!isPrivate) {
                due(Modifier.isPublic(method.getModifiers()), "rule 1: " + method + " is public or private");
                StringBuilder types = new StringBuilder();
                for (Class<?> type : method.getParameterTypes()) {
                    types.append(types.length() == 0 ? "" : ",").append(type.getName());
                }
                there.add(signature(method.getReturnType().getName(), method.getName(), types.toString()));
            }
        }
        due(there.equals(told), "rule 1: the face is " + told + ", not " + there);
        for (Class<?> inside : TwoTuesdays.class.getDeclaredClasses()) {
            for (Method method : inside.getDeclaredMethods()) {
                privateNames.add(method.getName());
            }
        }
        privateNames.retainAll(publicNames);
        due(privateNames.isEmpty(), "rule 1: names of public methods are used again: " + privateNames);
        Constructor<?>[] constructors = TwoTuesdays.class.getDeclaredConstructors();
        due(constructors.length == 1 && Modifier.isPublic(constructors[0].getModifiers())
            && constructors[0].getParameterCount() == 0, "rule 1: one public constructor");
        due(TwoTuesdays.class.getModifiers() == (Modifier.PUBLIC | Modifier.FINAL), "rule 1: public and final");
    }

    private static void classesInside() {
        List<Class<?>> all = new java.util.ArrayList<>(Arrays.asList(TwoTuesdays.class.getDeclaredClasses()));
        due(all.size() <= 12, "rule 11: classes");
        for (Class<?> inside : all) {
            due(Modifier.isStatic(inside.getModifiers()), "rule 2: static: " + inside);
            due(!Modifier.isPublic(inside.getModifiers()) && !Modifier.isProtected(inside.getModifiers()),
                "rule 1: private or package-visible: " + inside);
        }
        all.add(TwoTuesdays.class);
        for (Class<?> one : all) {
            int fields = 0;
            for (Field field : one.getDeclaredFields()) {
                int modifiers = field.getModifiers();
                boolean isStatic = Modifier.isStatic(modifiers);
                fields += isStatic ? 0 : 1;
                due(!isStatic || Modifier.isFinal(modifiers), "rule 5: static and final: " + field);
                due(one != TwoTuesdays.class || Modifier.isPrivate(modifiers), "rule 1: private: " + field);
            }
            due(fields <= 20, "rule 11: fields of " + one);
            for (Method method : one.getDeclaredMethods()) {
                due(method.getParameterCount() <= 7, "rule 11: parameters of " + method);
            }
        }
    }

    private static void source(String source) {
        String code = source.replaceAll("(?s)/\\*.*?\\*/", "").replaceAll("//[^\n]*", "")
            .replaceAll("\"[^\"\n]*\"", "\"\"").replaceAll("'[^'\n]+'", "' '");
        for (String word : List.of("throw", "throws", "try", "catch", "finally", "synchronized", "assert", "package",
            "protected", "volatile", "native", "var", "Exception", "Error", "Thread", "Random", "Object", "Map")) {
            due(!Pattern.compile("\\b" + word + "\\b").matcher(code).find(), "rules 4, 6, 13: no " + word);
        }
        for (String sign : List.of("->", "::", "\"\" +", "+ \"\"", "Exact(", "@")) {
            due(!code.contains(sign), "rules 2, 4, 10: no " + sign);
        }
        Matcher imports = Pattern.compile("^import ([^;]+);", Pattern.MULTILINE).matcher(code);
        while (imports.find()) {
            due(Set.of("java.util.Arrays", "java.util.ArrayList", "java.util.List").contains(imports.group(1)),
                "rule 4: import " + imports.group(1));
        }
        Matcher library = Pattern.compile("\\b(System|Arrays|Math|Integer|Long)\\.(\\w+)").matcher(code);
        Set<String> known = Set.of("System.arraycopy", "Arrays.copyOf", "Arrays.copyOfRange", "Arrays.fill",
            "Math.min", "Math.max", "Math.abs", "Math.floorMod", "Math.floorDiv", "Integer.bitCount");
        while (library.find()) {
            due(known.contains(library.group()), "rule 4: " + library.group());
        }
        due(source.chars().allMatch(c -> c < 128), "rule 4: signs 1 to 127");
        methodLengths(code);
    }

    private static void methodLengths(String code) {
        String[] lines = code.split("\n", -1);
        Pattern head = Pattern.compile("^( {4}| {8})(public |private )?(static )?[\\w\\[\\]]+( \\w+)?\\(.*\\{$");
        for (int i = 0; i < lines.length; i++) {
            Matcher matcher = head.matcher(lines[i]);
            if (matcher.find() && !lines[i].matches("\\s*(if|for|while|switch).*")) {
                int end = i;
                while (end < lines.length - 1 && !lines[end].equals(matcher.group(1) + "}")) {
                    end++;
                }
                due(end - i < 60, "rule 11: some sixty lines: " + lines[i].trim());
            }
        }
    }

    /** Any arguments in any state, more calls than the document promises anything about. */
    private static void nothingThrows() throws Exception {
        int[] edges = {Integer.MIN_VALUE, Integer.MIN_VALUE + 1, -1000001, -256, -2, -1, 0, 1, 2, 3, 4, 5, 6, 7, 8, 9,
            10, 20, 21, 39, 40, 41, 60, 61, 100, 101, 119, 120, 200, 255, 9999, 10000, 99999, 100000,
            Integer.MAX_VALUE - 1, Integer.MAX_VALUE};
        Method[] methods = Arrays.stream(TwoTuesdays.class.getDeclaredMethods())
            .filter(m -> Modifier.isPublic(m.getModifiers()))
            .sorted(java.util.Comparator.comparing(Method::getName)).toArray(Method[]::new);
        Random random = new Random(5);
        for (int run = 0; run < 40; run++) {
            TwoTuesdays x = new TwoTuesdays();
            for (int i = 0; i < 3000; i++) {
                Method method = methods[random.nextInt(methods.length)];
                Object[] arguments = new Object[method.getParameterCount()];
                for (int k = 0; k < arguments.length; k++) {
                    int r = random.nextInt(10);
                    arguments[k] = r == 0 ? random.nextInt() : r < 4 ? edges[random.nextInt(edges.length)] : random.nextInt(8);
                }
                method.invoke(x, arguments);
            }
        }
    }

    /** The dearest calls, over and over: what they make would be seen as bytes of this thread. */
    private static void nothingIsMadeByCalls() {
        com.sun.management.ThreadMXBean bean =
            (com.sun.management.ThreadMXBean) java.lang.management.ManagementFactory.getThreadMXBean();
        TwoTuesdays x = new TwoTuesdays();
        for (int i = 0; i < 8; i++) {
            x.person(i % 7, i);
        }
        x.sheet(0, 16, 40);
        dearCalls(x);
        long before = bean.getThreadAllocatedBytes(Thread.currentThread().getId());
        for (int i = 0; i < 20; i++) {
            dearCalls(x);
        }
        long made = bean.getThreadAllocatedBytes(Thread.currentThread().getId()) - before;
        due(made < 20000, "rule 12: twenty rounds of calls made " + made + " bytes");
    }

    private static void dearCalls(TwoTuesdays x) {
        x.swapFor(40);
        x.planFor(0, 60);
        x.kindFor(0, 60);
        x.looksFor(0, 60);
        x.loveFor(0, 60);
        x.prizeFor(0, 8);
        x.tell(0, 8);
        x.away();
        x.fits(0, 0);
        x.kinds(0, 0);
        x.go(60);
        x.weather(20);
        x.ahead(0, 100);
        x.crowd(0, 100, 0);
        x.feed(0x63617420, 4);
        x.text();
        x.image();
        x.undo();
    }
}
