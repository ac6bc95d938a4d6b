import java.lang.reflect.Constructor;
import java.lang.reflect.Executable;
import java.lang.reflect.Field;
import java.lang.reflect.Method;
import java.lang.reflect.Modifier;
import java.nio.file.Files;
import java.nio.file.Path;
import java.util.ArrayList;
import java.util.Arrays;
import java.util.List;
import java.util.TreeSet;
import java.util.regex.Pattern;

/** The face of the document, and what of LANGUAGE.md can be seen from the source. */
public final class SourceTest {
    private static final String FACE = "about(int):int again(int):int all():int breaks(int):int "
            + "carry(int,int):int dam(int):int drowns(int):int dyke():int farm(int,int):int fault():int "
            + "keep(int):int lend(int,int):int loss(int):int needs(int):int net(int):int owes(int,int):int "
            + "payings():int placing(int,int,int):int pull(int,int):int rests(int,int,int,int,int):int "
            + "seed(long):long share(int,int,boolean):int stick(int):int storm(int):int "
            + "threes(int,int,int,int,boolean):int told(int,int,long,int):int undo():int wet(int,int):int "
            + "winters(int):int wipe():int write(int):int";
    private static final String SECTIONS = "---- the dyke write wipe fault dyke about farm owes "
            + "---- acts storm carry lend stick pull dam undo "
            + "---- storms breaks drowns loss needs placing all told wet ---- owed net payings share "
            + "---- rests, chances rests threes seed winters ---- slots keep again ";
    private static final String[] NO_WORDS = {"throw", "throws", "try", "catch", "finally", "synchronized", "assert",
        "native", "goto", "System", "Random", "Thread", "Object", "hashCode", "toString", "Integer\\.valueOf"};

    public static void main(String[] args) throws Exception {
        Class<?> type = Class.forName("DykeFarms");
        face(type);
        classes(type);
        words(Files.readString(Path.of("src/main/java/DykeFarms.java")));
        lengths(Files.readAllLines(Path.of("src/main/java/DykeFarms.java")));
        sections(Files.readAllLines(Path.of("src/main/java/DykeFarms.java")));
        Due.end();
    }

    private static void face(Class<?> type) {
        int wanted = Modifier.PUBLIC | Modifier.FINAL;
        Due.is("the class is public and final", type.getModifiers() & wanted, wanted);
        TreeSet<String> told = new TreeSet<>();
        for (Method method : type.getDeclaredMethods()) {
            if (!Modifier.isPrivate(method.getModifiers())) {
                told.add(signature(method) + ":" + method.getReturnType());
            }
        }
        Due.holds("the methods are " + told, told.equals(new TreeSet<>(Arrays.asList(FACE.split(" ")))));
        Due.is("constructors", type.getDeclaredConstructors().length, 1);
        for (Constructor<?> constructor : type.getDeclaredConstructors()) {
            Due.is("its arguments", constructor.getParameterCount(), 0);
            Due.is("it is public", constructor.getModifiers(), Modifier.PUBLIC);
        }
        TreeSet<String> seen = new TreeSet<>();
        for (Field field : type.getDeclaredFields()) {
            if (!Modifier.isPrivate(field.getModifiers())) {
                seen.add(field.getName());
            }
        }
        Due.holds("the constants are " + seen,
                seen.equals(new TreeSet<>(List.of("UNKNOWN", "BAD", "LATE", "FULL", "NONE"))));
    }

    private static String signature(Method method) {
        List<String> types = new ArrayList<>();
        for (Class<?> type : method.getParameterTypes()) {
            types.add(type.getName());
        }
        return method.getName() + "(" + String.join(",", types) + ")";
    }

    private static void classes(Class<?> type) {
        TreeSet<String> names = new TreeSet<>();
        for (Method method : type.getDeclaredMethods()) {
            Due.holds("no two methods are named " + method.getName(), names.add(method.getName()));
        }
        List<Class<?>> every = new ArrayList<>(List.of(type));
        every.addAll(List.of(type.getDeclaredClasses()));
        Due.holds("at most some twelve classes", every.size() <= 12);
        for (Class<?> each : every) {
            Due.holds(each + " is static", each == type || Modifier.isStatic(each.getModifiers()));
            Due.is("classes of " + each, each == type ? 0 : each.getDeclaredClasses().length, 0);
            int own = 0;
            for (Field field : each.getDeclaredFields()) {
                boolean fixed = Modifier.isFinal(field.getModifiers());
                Due.holds(field + " is final if it is static", fixed || !Modifier.isStatic(field.getModifiers()));
                own += Modifier.isStatic(field.getModifiers()) ? 0 : 1;
            }
            Due.holds(each + " has some twenty fields", own <= 20);
            for (Executable method : each.getDeclaredMethods()) {
                Due.holds(method + " takes seven at most", method.getParameterCount() <= 7);
            }
        }
    }

    private static void words(String source) {
        String code = source.replaceAll("(?s)/\\*.*?\\*/", " ").replaceAll("//[^\n]*", " ");
        for (String word : NO_WORDS) {
            Due.holds("no " + word, !Pattern.compile("\\b" + word + "\\b").matcher(code).find());
        }
        Due.holds("no lambda", !code.contains("->") && !code.contains("::"));
        Due.holds("nothing that ends in Exact", !code.contains("Exact"));
        Due.holds("no texts", !code.contains("\""));
        Due.holds("plain signs", source.chars().allMatch(c -> c == '\n' || c >= 32 && c < 127));
        Due.holds("one import", code.replace("import java.util.Arrays;", "").indexOf("import") < 0);
        int body = code.indexOf("public DykeFarms()");
        int end = code.indexOf("public int write");
        String made = code.substring(0, body) + code.substring(end, code.indexOf("private static final class"));
        Due.holds("only the constructor makes objects", !Pattern.compile("\\bnew\\b").matcher(made).find());
    }

    /** What stands ahead of the calls, and their order. */
    private static void sections(List<String> lines) {
        StringBuilder told = new StringBuilder();
        for (String line : lines) {
            String name = line.replaceAll("\\(.*", "").replaceAll(".* ", "");
            if (line.startsWith("    // ---- ")) {
                told.append(line.substring(7)).append(' ');
            } else if (line.matches("    public (int|long) \\w+\\(.*")) {
                told.append(name).append(' ');
            }
        }
        String got = told.toString();
        Due.holds("the calls stand behind their sections: " + got, got.startsWith(SECTIONS));
        Due.holds("no call stands behind them", !got.substring(Math.min(SECTIONS.length(), got.length()))
                .replace("---- what the calls rest on", "").matches(".*\\w.*"));
    }

    private static void lengths(List<String> lines) {
        int methods = 0;
        int from = 0;
        String end = "";
        for (int i = 0; i < lines.size(); i++) {
            String line = lines.get(i);
            if (line.matches(" +(public|private) .*\\) \\{")) {
                methods++;
                from = i;
                end = line.substring(0, line.indexOf('p')) + "}";
            } else if (line.equals(end)) {
                Due.holds("sixty lines at most up to line " + (i + 1), i - from < 60);
            }
        }
        Due.holds("there are methods", methods > 31);
    }
}
