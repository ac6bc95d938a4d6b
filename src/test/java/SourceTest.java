import java.lang.reflect.Constructor;
import java.lang.reflect.Executable;
import java.lang.reflect.Field;
import java.lang.reflect.Method;
import java.lang.reflect.Modifier;
import java.nio.file.Files;
import java.nio.file.Path;
import java.util.ArrayList;
import java.util.Arrays;
import java.util.List;
import java.util.Map;
import java.util.TreeMap;
import java.util.TreeSet;
import java.util.regex.Matcher;
import java.util.regex.Pattern;

/** The face of the document, and what of LANGUAGE.md can be seen from the source. */
public final class SourceTest {
    private static final String FACE = "about(int):int again(int):int all():int breaks(int):int "
            + "carry(int,int):int dam(int):int drowns(int):int dyke():int farm(int,int):int fault():int "
            + "keep(int):int lend(int,int):int loss(int):int needs(int):int net(int):int owes(int,int):int "
            + "payings():int placing(int,int,int):int pull(int,int):int rests(int,int,int,int,int):int "
            + "seed(long):long share(int,int,boolean):int stick(int):int storm(int):int "
            + "threes(int,int,int,int,boolean):int told(int,int,long,int):int undo():int wet(int,int):int "
            + "winters(int):int wipe():int write(int):int";
    private static final String SECTIONS = "---- the dyke write wipe fault dyke about farm owes "
            + "---- acts storm carry lend stick pull dam undo "
            + "---- storms breaks drowns loss needs placing all told wet ---- owed net payings share "
            + "---- rests, chances rests threes seed winters ---- slots keep again ";
    private static final Pattern METHOD =
            Pattern.compile(" +(?:public|private)(?: static)? (?:\\w+ )?(\\w+)\\(.*\\) \\{");
    private static final List<String> LIBRARY = List.of("Math.max", "Math.min", "Integer.bitCount", "Arrays.fill");
    private static final String[] NO_WORDS = {"throw", "throws", "try", "catch", "finally", "synchronized", "assert",
        "native", "goto", "System", "Random", "Thread", "Object", "hashCode", "toString", "Integer\\.valueOf"};

    public static void main(String[] args) throws Exception {
        Class<?> type = Class.forName("DykeFarms");
        face(type);
        classes(type);
        words(Files.readString(Path.of("src/main/java/DykeFarms.java")));
        lengths(Files.readAllLines(Path.of("src/main/java/DykeFarms.java")));
        sections(Files.readAllLines(Path.of("src/main/java/DykeFarms.java")));
        depth(Files.readAllLines(Path.of("src/main/java/DykeFarms.java")));
        Due.end();
    }

    private static void face(Class<?> type) {
        Due.by("rule 1");
        int wanted = Modifier.PUBLIC | Modifier.FINAL;
        Due.is("the class is public and final", type.getModifiers() & wanted, wanted);
        TreeSet<String> told = new TreeSet<>();
        for (Method method : type.getDeclaredMethods()) {
            if (!Modifier.isPrivate(method.getModifiers())) {
                told.add(signature(method) + ":" + method.getReturnType());
            }
        }
        Due.holds("the methods are " + told, told.equals(new TreeSet<>(Arrays.asList(FACE.split(" ")))));
        Due.is("constructors", type.getDeclaredConstructors().length, 1);
        for (Constructor<?> constructor : type.getDeclaredConstructors()) {
            Due.is("its arguments", constructor.getParameterCount(), 0);
            Due.is("it is public", constructor.getModifiers(), Modifier.PUBLIC);
        }
        TreeSet<String> seen = new TreeSet<>();
        for (Field field : type.getDeclaredFields()) {
            if (!Modifier.isPrivate(field.getModifiers())) {
                seen.add(field.getName());
            }
        }
        Due.holds("the constants are " + seen,
                seen.equals(new TreeSet<>(List.of("UNKNOWN", "BAD", "LATE", "FULL", "NONE"))));
    }

    private static String signature(Method method) {
        List<String> types = new ArrayList<>();
        for (Class<?> type : method.getParameterTypes()) {
            types.add(type.getName());
        }
        return method.getName() + "(" + String.join(",", types) + ")";
    }

    private static void classes(Class<?> type) {
        Due.by("rules 1, 2, 5 and 11");
        List<Class<?>> every = new ArrayList<>(List.of(type));
        every.addAll(List.of(type.getDeclaredClasses()));
        TreeSet<String> names = new TreeSet<>();
        for (Class<?> each : every) {
            for (Method method : each.getDeclaredMethods()) {
                Due.holds("no two methods are named " + method.getName(), names.add(method.getName()));
            }
        }
        Due.holds("at most some twelve classes", every.size() <= 12);
        for (Class<?> each : every) {
            Due.holds(each + " is static", each == type || Modifier.isStatic(each.getModifiers()));
            Due.is("classes of " + each, each == type ? 0 : each.getDeclaredClasses().length, 0);
            int own = 0;
            for (Field field : each.getDeclaredFields()) {
                boolean fixed = Modifier.isFinal(field.getModifiers());
                Due.holds(field + " is final if it is static", fixed || !Modifier.isStatic(field.getModifiers()));
                own += Modifier.isStatic(field.getModifiers()) ? 0 : 1;
            }
            Due.holds(each + " has some twenty fields", own <= 20);
            for (Executable method : each.getDeclaredMethods()) {
                Due.holds(method + " takes seven at most", method.getParameterCount() <= 7);
            }
        }
    }

    private static void words(String source) {
        Due.by("rules 2 to 7, 10, 12 and 13");
        String code = source.replaceAll("(?s)/\\*.*?\\*/", " ").replaceAll("//[^\n]*", " ");
        for (String word : NO_WORDS) {
            Due.holds("no " + word, !Pattern.compile("\\b" + word + "\\b").matcher(code).find());
        }
        Due.holds("no lambda", !code.contains("->") && !code.contains("::"));
        Due.holds("nothing that ends in Exact", !code.contains("Exact"));
        Due.holds("no texts", !code.contains("\""));
        Due.holds("no static initialiser", !Pattern.compile("\\bstatic\\s*\\{").matcher(code).find());
        Due.holds("no numbers but whole ones", !Pattern.compile("\\b(double|float)\\b|\\d\\.\\d").matcher(code).find());
        String own = code.replace("import java.util.Arrays;", "");
        Matcher library = Pattern.compile("\\b(Math|Integer|Long|Arrays|String\\w*|List|ArrayList)\\b(\\.\\w+)?")
                .matcher(own);
        while (library.find()) {
            Due.holds(library.group() + " is of the few that are used", LIBRARY.contains(library.group()));
        }
        Due.holds("plain signs", source.chars().allMatch(c -> c == '\n' || c >= 32 && c < 127));
        Due.holds("one import", code.replace("import java.util.Arrays;", "").indexOf("import") < 0);
        int body = code.indexOf("public DykeFarms()");
        int end = code.indexOf("public int write");
        String made = code.substring(0, body) + code.substring(end, code.indexOf("private static final class"));
        Due.holds("only the constructor makes objects", !Pattern.compile("\\bnew\\b").matcher(made).find());
    }

    /** No method comes back to itself, and calls go eight deep at most. */
    private static void depth(List<String> lines) {
        Due.by("rules 8 and 11");
        Map<String, String> bodies = new TreeMap<>();
        String name = "";
        for (String line : lines) {
            Matcher head = METHOD.matcher(line);
            if (head.matches()) {
                name = head.group(1);
                bodies.put(name, "");
            } else if (!name.isEmpty()) {
                bodies.put(name, bodies.get(name) + line + "\n");
            }
        }
        for (Method method : DykeFarms.class.getDeclaredMethods()) {
            Due.holds(method.getName() + " is found", bodies.containsKey(method.getName()));
        }
        for (String from : bodies.keySet()) {
            Due.holds(from + " goes eight deep at most", deep(from, bodies, 1) <= 8);
        }
    }

    /** Far more than eight where a method comes back to itself. */
    private static int deep(String from, Map<String, String> bodies, int at) {
        int deepest = at;
        for (String to : bodies.keySet()) {
            if (at < 20 && Pattern.compile("\\b" + to + "\\(").matcher(bodies.get(from)).find()) {
                deepest = Math.max(deepest, deep(to, bodies, at + 1));
            }
        }
        return deepest;
    }

    /** What stands ahead of the calls, and their order. */
    private static void sections(List<String> lines) {
        Due.by("Ahead of the calls .. the interface says");
        StringBuilder told = new StringBuilder();
        for (String line : lines) {
            String name = line.replaceAll("\\(.*", "").replaceAll(".* ", "");
            if (line.startsWith("    // ---- ")) {
                told.append(line.substring(7)).append(' ');
            } else if (line.matches("    public (int|long) \\w+\\(.*")) {
                told.append(name).append(' ');
            }
        }
        String got = told.toString();
        Due.holds("the calls stand behind their sections: " + got, got.startsWith(SECTIONS));
        Due.holds("no call stands behind them", !got.substring(Math.min(SECTIONS.length(), got.length()))
                .replace("---- what the calls rest on", "").matches(".*\\w.*"));
    }

    private static void lengths(List<String> lines) {
        Due.by("rule 11");
        int methods = 0;
        int from = 0;
        String end = "";
        for (int i = 0; i < lines.size(); i++) {
            String line = lines.get(i);
            if (line.matches(" +(public|private) .*\\) \\{")) {
                methods++;
                from = i;
                end = line.substring(0, line.indexOf('p')) + "}";
            } else if (line.equals(end)) {
                Due.holds("sixty lines at most up to line " + (i + 1), i - from < 60);
            }
        }
        Due.holds("there are methods", methods > 31);
    }
}
