import java.lang.management.ManagementFactory;
import java.lang.reflect.Constructor;
import java.lang.reflect.Field;
import java.lang.reflect.Method;
import java.lang.reflect.Modifier;
import java.nio.file.Files;
import java.nio.file.Path;
import java.util.ArrayList;
import java.util.List;
import java.util.Set;
import java.util.TreeSet;
import java.util.regex.Matcher;
import java.util.regex.Pattern;

/** The rules of LANGUAGE.md that can be seen in the source and in the class, and the document's face. */
public final class LanguageTest {
    private static final Check CHECK = new Check("LanguageTest");

    private static String withoutCommentsAndTexts(String source) {
        return source.replaceAll("(?s)/\\*.*?\\*/", "").replaceAll("//[^\\n]*", "").replaceAll("\"[^\"\\n]*\"", "\"\"");
    }

    /** The lines of the public face as the document writes them, with plain blanks. */
    private static Set<String> faceOfTheDocument() throws Exception {
        String doc = Files.readString(Path.of("../shared/DOC.md"));
        String face = doc.substring(doc.indexOf("```java") + 7, doc.indexOf("```", doc.indexOf("```java") + 7));
        Set<String> lines = new TreeSet<>();
        for (String line : face.split("\n")) {
            if (line.trim().startsWith("public") && line.trim().endsWith(";")) {
                lines.add(line.trim().replaceAll("\\b(int|long|boolean) \\w+([,)])", "$1$2"));
            }
        }
        return lines;
    }

    private static Set<String> faceOfTheClass() throws Exception {
        Set<String> lines = new TreeSet<>();
        for (Constructor<?> c : GaleRoof.class.getDeclaredConstructors()) {
            lines.add(Modifier.toString(c.getModifiers()) + " GaleRoof" + parameters(c.getParameterTypes()));
        }
        for (Method m : GaleRoof.class.getDeclaredMethods()) {
            if (!Modifier.isPrivate(m.getModifiers())) {
                lines.add(Modifier.toString(m.getModifiers()) + " " + m.getReturnType() + " " + m.getName() + parameters(m.getParameterTypes()));
            }
        }
        for (Field f : GaleRoof.class.getDeclaredFields()) {
            if (!Modifier.isPrivate(f.getModifiers())) {
                lines.add(Modifier.toString(f.getModifiers()) + " " + f.getType() + " " + f.getName() + " = " + f.get(null) + ";");
            }
        }
        return lines;
    }

    private static String parameters(Class<?>[] types) {
        List<String> names = new ArrayList<>();
        for (Class<?> type : types) {
            names.add(type.toString());
        }
        return "(" + String.join(", ", names) + ");";
    }

    private static void look(String code, String forbidden) {
        Matcher m = Pattern.compile(forbidden).matcher(code);
        CHECK.due("the source has " + forbidden, m.find(), false);
    }

    private static void lookAtClasses() {
        Set<String> faceNames = new TreeSet<>();
        for (Method m : GaleRoof.class.getDeclaredMethods()) {
            if (Modifier.isPublic(m.getModifiers())) {
                faceNames.add(m.getName());
            }
        }
        List<Class<?>> all = new ArrayList<>(List.of(GaleRoof.class.getDeclaredClasses()));
        CHECK.due("classes inside", all.size() <= 12, true);
        for (Class<?> c : all) {
            CHECK.due(c + " is static", Modifier.isStatic(c.getModifiers()), true);
            CHECK.due(c + " is no part of the face", Modifier.isPublic(c.getModifiers()) || Modifier.isProtected(c.getModifiers()), false);
        }
        all.add(GaleRoof.class);
        for (Class<?> c : all) {
            int fields = 0;
            for (Field f : c.getDeclaredFields()) {
                boolean isStatic = Modifier.isStatic(f.getModifiers());
                fields += isStatic ? 0 : 1;
                CHECK.due(f + " is final or no static", isStatic && !Modifier.isFinal(f.getModifiers()), false);
            }
            CHECK.due("fields of " + c, fields <= 20, true);
            for (Method m : c.getDeclaredMethods()) {
                CHECK.due("parameters of " + m, m.getParameterCount() <= 7, true);
                boolean inFace = c == GaleRoof.class && Modifier.isPublic(m.getModifiers());
                CHECK.due(m + " bears a public one's name", !inFace && faceNames.contains(m.getName()), false);
            }
        }
    }

    private static void lookAtMethods(String code) {
        String[] lines = code.split("\n");
        int from = -1;
        for (int i = 0; i < lines.length; i++) {
            if (lines[i].matches("( {4}| {8})(public |private |static |final )*[\\w\\[\\]]+ ?\\w*\\(.*\\) \\{")) {
                from = i;
            } else if (from >= 0 && lines[i].matches(" {4,8}\\}") && lines[i].indexOf('}') == lines[from].length() - lines[from].stripLeading().length()) {
                CHECK.due("lines of " + lines[from].trim(), i - from < 60, true);
                from = -1;
            }
        }
    }

    /** No call may make objects without need: all of them together make next to none. */
    private static void countWhatCallsMake() {
        com.sun.management.ThreadMXBean bean = (com.sun.management.ThreadMXBean) ManagementFactory.getThreadMXBean();
        GaleRoof x = Check.told("roof 6 6 1; door a 1 3 open; door b 2 4; suck = gust + bare * 5 - (row + col) * 2; nailed if third == 1; warn if age < 30;");
        long sum = allCalls(x);
        long id = Thread.currentThread().getId();
        bean.getThreadAllocatedBytes(id);
        long ahead = bean.getThreadAllocatedBytes(id);
        sum += allCalls(x);
        long made = bean.getThreadAllocatedBytes(id) - ahead;
        CHECK.due("bytes that calls make (" + made + ", sum " + sum + ")", made < 2000, true);
    }

    private static long allCalls(GaleRoof x) {
        long sum = x.feed(0x20202020, 0x6c617020, 0x393b2020, 0x20202020, 0x20202020) + x.back(1) + x.read() + x.place();
        sum += x.gust(40, 1, 2) + x.gust(30, 2, 3) + x.car(0) + x.house(5, 1, 1, 1) + x.annul(0);
        sum += x.tile(0, 1) + x.door(0, 1) + x.inlet(0, 1) + x.lift(0, 40, 1, 3) + x.goes(7, 1, true) + x.first(1, true);
        sum += x.fall(40, 1, 0) + x.fallen(40, 1, 3) + x.round(5, 40, 1) + x.lands(5, 40, 1) + x.worst(40, 1);
        sum += x.harm() + x.doors(40, 1) + x.helps(0, 40, 1) + x.ever(0, 1) + x.nailing(2) + x.onebyone(12) + x.without(0) + x.without(1) + x.without(2);
        sum += x.neglect(40, 1) + x.night(30) + x.years(5, 60) + x.lasts(5) + x.odds(5, 50, 60, 1) + x.yardTells(2);
        sum += x.warned(5, 1, 1) + x.village(1, 1, 1) + x.villageWays(1, 1, true) + x.line(1, 1, true) + x.count(4);
        x.hold(0);
        sum += x.blow(40, 1) + x.yard(3000) + x.hits(0) + x.calm();
        x.restore(0);
        x.set(0, 3, 4);
        x.there(0, false);
        x.open(0, false);
        x.felt(true);
        return sum + x.sweep();
    }

    public static void main(String[] args) throws Exception {
        String source = Files.readString(Path.of("src/main/java/GaleRoof.java"));
        CHECK.due("the face", String.join("\n", faceOfTheClass()), String.join("\n", faceOfTheDocument()));
        CHECK.due("the class is public and final", Modifier.toString(GaleRoof.class.getModifiers()), "public final");
        CHECK.due("signs of the source are 10, 32 .. 126", source.matches("[\\n -~]*"), true);
        String code = withoutCommentsAndTexts(source);
        for (String word : new String[] {"throw", "throws", "try", "catch", "synchronized", "assert", "package", "double", "float", "yield", "var", "default\\s*->"}) {
            look(code, "\\b" + word + "\\b");
        }
        for (String sign : new String[] {"->", "::", "@", "\\.equals\\(", "\\.hashCode\\(", "\\.toString\\(", "Exact\\(", "System\\.(?!arraycopy)", "Thread", "Random", "while \\(true", "for \\(;;", "\"\" \\+", "\\+ \"\""}) {
            look(code, sign);
        }
        Matcher imports = Pattern.compile("import ([\\w.]+);").matcher(code);
        while (imports.find()) {
            CHECK.due("import " + imports.group(1), imports.group(1).matches("java\\.util\\.(Arrays|ArrayList|List|Iterator)"), true);
        }
        Matcher library = Pattern.compile("\\b(Arrays|Math|Integer|Long)\\.(\\w+)").matcher(code);
        while (library.find()) {
            CHECK.due("library " + library.group(), library.group().matches("Arrays\\.fill|Math\\.(max|min|abs)|Integer\\.bitCount"), true);
        }
        lookAtClasses();
        lookAtMethods(code);
        countWhatCallsMake();
        CHECK.end();
    }
}
