import java.io.IOException;
import java.lang.reflect.Constructor;
import java.lang.reflect.Field;
import java.lang.reflect.Method;
import java.lang.reflect.Modifier;
import java.nio.file.Files;
import java.nio.file.Path;
import java.util.ArrayList;
import java.util.List;
import java.util.Map;
import java.util.Set;
import java.util.TreeMap;
import java.util.TreeSet;
import java.util.regex.Matcher;
import java.util.regex.Pattern;

/** What can be seen of LANGUAGE.md's rules from the source and from the compiled class. */
public final class RulesTest {
    private static final Check CHECK = new Check();

    public static void main(String[] args) throws IOException {
        String source = Files.readString(Path.of("src/main/java/LuckyTicket.java"));
        String bare = bare(source);
        face();
        names();
        words(bare);
        library(bare);
        measures(bare);
        depths(bare);
        CHECK.finish();
    }

    /** The source without comments and without what stands in texts and signs. */
    private static String bare(String source) {
        String noComments = source.replaceAll("(?s)/\\*.*?\\*/", " ").replaceAll("//[^\n]*", " ");
        return noComments.replaceAll("\"[^\"\n]*\"", "\"\"").replaceAll("'[^'\n]+'", "' '");
    }

    private static List<String> documentFace() throws IOException {
        List<String> face = new ArrayList<>();
        String text = Files.readString(Path.of("../shared/DOC.md"));
        Matcher matcher = Pattern.compile("(?m)^    public (int|long) (\\w+)\\(([^)]*)\\);").matcher(text);
        while (matcher.find()) {
            String types = matcher.group(3).replaceAll("(int|long) \\w+", "$1").replace(" ", "");
            face.add(matcher.group(1) + " " + matcher.group(2) + "(" + types + ")");
        }
        return face;
    }

    private static void face() throws IOException {
        Set<String> told = new TreeSet<>(documentFace());
        Set<String> have = new TreeSet<>();
        for (Method method : LuckyTicket.class.getDeclaredMethods()) {
            if (!Modifier.isPrivate(method.getModifiers())) {
                List<String> types = new ArrayList<>();
                for (Class<?> type : method.getParameterTypes()) {
                    types.add(type.getName());
                }
                have.add(method.getReturnType() + " " + method.getName() + "(" + String.join(",", types) + ")");
            }
        }
        CHECK.due("methods of the document", told.size(), 61);
        CHECK.holds("1: the face is the document's: " + have, told.equals(have));
        int type = LuckyTicket.class.getModifiers();
        CHECK.holds("1: public and final", Modifier.isPublic(type) && Modifier.isFinal(type));
        Constructor<?>[] constructors = LuckyTicket.class.getDeclaredConstructors();
        CHECK.holds("1: one constructor", constructors.length == 1
                && Modifier.isPublic(constructors[0].getModifiers()) && constructors[0].getParameterCount() == 0);
        for (Field field : LuckyTicket.class.getDeclaredFields()) {
            CHECK.holds("1: " + field, Modifier.isPrivate(field.getModifiers()) || field.getName().equals("NONE"));
        }
    }

    private static void names() throws IOException {
        Set<String> face = new TreeSet<>();
        for (String method : documentFace()) {
            face.add(method.replaceAll("^\\w+ (\\w+).*", "$1"));
        }
        for (Method method : LuckyTicket.class.getDeclaredMethods()) {
            CHECK.holds("1: " + method, !Modifier.isPrivate(method.getModifiers()) || !face.contains(method.getName()));
        }
        Class<?>[] inside = LuckyTicket.class.getDeclaredClasses();
        CHECK.holds("11: classes", inside.length < 12);
        for (Class<?> type : inside) {
            CHECK.holds("2: static: " + type, Modifier.isStatic(type.getModifiers()));
            CHECK.holds("11: fields of " + type, type.getDeclaredFields().length <= 30);
            for (Method method : type.getDeclaredMethods()) {
                CHECK.holds("1: " + method, !face.contains(method.getName()));
                CHECK.holds("11: parameters of " + method, method.getParameterCount() <= 7);
            }
            for (Field field : type.getDeclaredFields()) {
                boolean isStatic = Modifier.isStatic(field.getModifiers());
                CHECK.holds("5: " + field, !isStatic || Modifier.isFinal(field.getModifiers()));
            }
        }
    }

    private static void words(String bare) {
        String[] forbidden = {"throw", "throws", "try", "catch", "synchronized", "assert", "finally", "package", "Object",
            "hashCode", "toString", "Exception", "double", "float", "volatile", "native", "transient", "yield", "var"};
        for (String word : forbidden) {
            CHECK.holds("no " + word, !Pattern.compile("\\b" + word + "\\b").matcher(bare).find());
        }
        CHECK.holds("2: no lambda", !bare.contains("->"));
        CHECK.holds("2: no method reference", !bare.contains("::"));
        CHECK.holds("5: no static block", !Pattern.compile("static\\s*\\{").matcher(bare).find());
        CHECK.holds("10: no texts joined by +", !Pattern.compile("\"\"\\s*\\+|\\+\\s*\"\"").matcher(bare).find());
        CHECK.holds("only signs 1 to 127", bare.chars().allMatch(c -> c > 0 && c < 128));
    }

    private static void library(String bare) {
        Matcher imports = Pattern.compile("import ([\\w.]+);").matcher(bare);
        while (imports.find()) {
            CHECK.holds("4: import " + imports.group(1), imports.group(1).equals("java.util.Arrays"));
        }
        Set<String> allowed = Set.of("Arrays.fill", "System.arraycopy", "Math.min", "Math.max",
                "Integer.bitCount", "Long.bitCount");
        Matcher calls = Pattern.compile("\\b(Arrays|System|Math|Integer|Long|String|Character|List)\\.\\w+").matcher(bare);
        while (calls.find()) {
            CHECK.holds("4: " + calls.group(), allowed.contains(calls.group()));
        }
        CHECK.holds("4: fill over numbers alone", !Pattern.compile("fill\\([^;]*(true|false)\\)").matcher(bare).find());
    }

    private static void measures(String bare) {
        int from = 0;
        String[] lines = bare.split("\n", -1);
        for (int i = 0; i < lines.length; i++) {
            if (lines[i].matches("( {4}| {8})(public|private|static|int|long|boolean|void).*\\) \\{")) {
                from = i;
            }
            if (lines[i].matches("( {4}| {8})}") && from > 0) {
                CHECK.holds("11: a method of " + (i - from) + " lines at " + (from + 1), i - from <= 60);
                from = 0;
            }
            CHECK.holds("a line of at most 120 signs: " + (i + 1), lines[i].length() <= 120);
        }
    }

    /** Which methods each one calls, by their names: those of two classes with one name are taken for one. */
    private static void depths(String bare) {
        Map<String, String> bodies = new TreeMap<>();
        Pattern heads = Pattern.compile("(?m)^( {4}| {8})[a-zA-Z][\\w \\[\\]]* (\\w+)\\([^;{]*\\) \\{");
        Matcher head = heads.matcher(bare);
        while (head.find()) {
            int stop = bare.indexOf("\n" + head.group(1) + "}", head.end());
            bodies.merge(head.group(2), bare.substring(head.end(), stop), String::concat);
        }
        CHECK.holds("11: methods that were found: " + bodies.size(), bodies.size() > 120);
        Map<String, Set<String>> calls = new TreeMap<>();
        for (String name : bodies.keySet()) {
            Matcher called = Pattern.compile("\\b(\\w+)\\(").matcher(bodies.get(name));
            Set<String> names = calls.computeIfAbsent(name, n -> new TreeSet<>());
            while (called.find()) {
                names.add(called.group(1));
            }
            names.retainAll(bodies.keySet());
        }
        for (String name : calls.keySet()) {
            int deep = deepest(name, calls, new TreeSet<>());
            CHECK.holds("11: calls from " + name + " go " + deep + " deep", deep <= 8);
        }
    }

    /** A method that is open already is a recursion, and is not gone into once more. */
    private static int deepest(String name, Map<String, Set<String>> calls, Set<String> open) {
        int deep = 0;
        open.add(name);
        for (String called : calls.get(name)) {
            if (!open.contains(called)) {
                deep = Math.max(deep, deepest(called, calls, open));
            }
        }
        open.remove(name);
        return deep + 1;
    }
}
