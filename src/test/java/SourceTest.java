import java.io.IOException;
import java.nio.file.Files;
import java.nio.file.Path;
import java.util.ArrayList;
import java.util.HashMap;
import java.util.HashSet;
import java.util.List;
import java.util.Map;
import java.util.Set;
import java.util.regex.Matcher;
import java.util.regex.Pattern;

/** Rules of LANGUAGE.md that can be seen from the lines of the source. */
final class SourceTest {
    private static final Check CHECK = new Check();
    private static final Pattern METHOD = Pattern.compile("^ {4,8}(?:public |private |static |final )*[\\w\\[\\]]+ (\\w+)\\((.*)\\).*\\{$");
    private static final Pattern MAKER = Pattern.compile("^ {4,8}(?:public )?([A-Z]\\w+)\\(.*\\) \\{$");
    private static final Pattern NESTED = Pattern.compile("^    private static final class (\\w+) \\{$");
    private static final Pattern CALL = Pattern.compile("(?:(\\w+)\\.)?(\\w+)\\(");

    private static final String[] BANNED = {
        "->", "::", "catch", "finally", "Exact(", "synchronized", "assert ", "hashCode", "toString", "equals(", "System.out",
        "Random", "Thread", "import ", "Object", "instanceof", "record ", "float", "double", "try {", "null;  //", "Long.", "NullPointer",
    };

    private static void banned(String source) {
        for (String word : BANNED) CHECK.is("banned: " + word, -1, () -> source.indexOf(word));
        CHECK.is("signs above 127", 0, () -> source.chars().filter(c -> c > 127).count());
    }

    private static void classes(List<String> lines) {
        Map<String, Integer> fields = new HashMap<>();
        String now = "Joinhand";
        fields.put(now, 0);
        for (String line : lines) {
            Matcher m = NESTED.matcher(line);
            if (m.matches()) {
                now = m.group(1);
                fields.put(now, 0);
            } else if (line.equals("    }") && !now.equals("Joinhand")) {
                now = "Joinhand";
            }
            String margin = now.equals("Joinhand") ? "    " : "        ";
            boolean isField = line.matches(margin + "(private )?(final )?[\\w\\[\\]]+ \\w+( = .*)?;");
            if (isField && !line.contains("return")) fields.merge(now, 1, Integer::sum);
        }
        CHECK.is("at most 12 classes", 1, () -> fields.size() <= 12 ? 1 : fields.size());
        for (Map.Entry<String, Integer> e : fields.entrySet()) {
            CHECK.is("at most 20 fields in " + e.getKey(), 1, () -> e.getValue() <= 20 ? 1 : e.getValue());
        }
    }

    /** The names of the methods, the classes that hold them, and the lines of each. */
    private static Map<String, List<String>> methods(List<String> lines) {
        Map<String, List<String>> methods = new HashMap<>();
        String owner = "Joinhand";
        List<String> body = null;
        String margin = "";
        for (String line : lines) {
            Matcher nested = NESTED.matcher(line);
            Matcher method = METHOD.matcher(line);
            Matcher maker = MAKER.matcher(line);
            if (nested.matches()) {
                owner = nested.group(1);
            } else if (body == null && (method.matches() || maker.matches())) {
                body = new ArrayList<>();
                margin = line.substring(0, line.length() - line.stripLeading().length());
                String name = owner + "." + (maker.matches() ? "new" : method.group(1));
                methods.put(name, body);
                if (method.matches()) {
                    int parameters = method.group(2).split(",").length;
                    CHECK.is("at most 7 parameters of " + name, 1, () -> parameters <= 7 ? 1 : parameters);
                }
            } else if (body != null && line.equals(margin + "}")) {
                body = null;
            } else if (body != null) {
                body.add(line);
            } else if (line.equals("    }")) {
                owner = "Joinhand";
            }
        }
        for (Map.Entry<String, List<String>> e : methods.entrySet()) {
            CHECK.is("at most 60 lines of " + e.getKey(), 1, () -> e.getValue().size() <= 60 ? 1 : e.getValue().size());
        }
        return methods;
    }

    private static int deepest(Map<String, Set<String>> calls, String name, int above) {
        int most = above;
        if (above > 20) return above;
        for (String called : calls.get(name)) most = Math.max(most, deepest(calls, called, above + 1));
        return most;
    }

    private static void depth(Map<String, List<String>> methods, Set<String> face) {
        Map<String, Set<String>> calls = new HashMap<>();
        for (String name : methods.keySet()) {
            Set<String> called = new HashSet<>();
            String owner = name.substring(0, name.indexOf('.'));
            for (String line : methods.get(name)) {
                Matcher m = CALL.matcher(line);
                while (m.find()) {
                    String word = m.group(2);
                    if (m.group(1) == null && methods.containsKey(owner + "." + word)) {
                        called.add(owner + "." + word);
                        continue;
                    }
                    if ("Math".equals(m.group(1)) || "Integer".equals(m.group(1))) continue;
                    for (String other : methods.keySet()) {
                        if (other.endsWith("." + word) && !other.startsWith(owner + ".") && !face.contains(word)) called.add(other);
                    }
                }
            }
            calls.put(name, called);
        }
        for (String name : methods.keySet()) {
            int deep = deepest(calls, name, 1);
            CHECK.is("calls at most eight deep from " + name, 1, () -> deep <= 8 ? 1 : deep);
        }
    }

    private static void names(List<String> lines, Set<String> face) {
        for (String line : lines) {
            Matcher m = METHOD.matcher(line);
            boolean isOwn = m.matches() && !line.startsWith("    public ");
            if (isOwn) CHECK.is("no own method bears a public name: " + m.group(1), 0, () -> face.contains(m.group(1)) ? 1 : 0);
        }
    }

    public static void main(String[] args) throws IOException {
        Path path = Path.of("src/main/java/Joinhand.java");
        List<String> lines = Files.readAllLines(path);
        Set<String> face = new HashSet<>();
        for (String line : lines) {
            Matcher m = METHOD.matcher(line);
            if (m.matches() && line.startsWith("    public ") && !line.contains(" Joinhand(")) face.add(m.group(1));
        }
        CHECK.is("the face has 24 methods", 24, face::size);
        banned(Files.readString(path));
        classes(lines);
        names(lines, face);
        depth(methods(lines), face);
        CHECK.end("SourceTest");
    }
}
