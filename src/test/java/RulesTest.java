import java.lang.management.ManagementFactory;
import java.lang.reflect.Constructor;
import java.lang.reflect.Field;
import java.lang.reflect.Method;
import java.lang.reflect.Modifier;
import java.nio.file.Files;
import java.nio.file.Path;
import java.util.ArrayList;
import java.util.Arrays;
import java.util.List;
import java.util.Set;
import java.util.TreeSet;

/** The face of the class, the rules of LANGUAGE.md that can be seen from outside, and how much a run makes. */
public final class RulesTest {
    private static final String FACE = "feed iiiii,end i,plain,fault i,house i,shelter i,thing ii,wind ii,at ii,here ii,"
            + "moved i,steps ii,worn i,received i,signed i,waits i,heir,gone i,had ii,has ii,right i,rich i,home i,far i,"
            + "apart iii,meet ii,heap i,under i,edge i,mostly i,lee ii,lulls,lull,force i,gale,movers i,moves i,idle,"
            + "strewn,keep i,keeps i,blow iiii,bring ii,blame,burden,weights ii,least ii,greatest ii,ask ii,leaves ii,"
            + "laws ii,by i,law,worth i,share ii,rests ii,gets iiii,chance ii,mean ii,blows iii,brings iii,undo,anew,"
            + "drawn ii,luck iii,rate ii,count i,image i,back i,row iii,write iil,paste iiiii";

    private static int wrong = 0;

    public static void main(String[] args) throws Exception {
        List<Class<?>> classes = new ArrayList<>(List.of(WindSigned.class));
        classes.addAll(Arrays.asList(WindSigned.class.getDeclaredClasses()));
        face();
        for (Class<?> c : classes) {
            members(c);
        }
        check(classes.size() <= 12, "rule 11: " + classes.size() + " classes");
        for (Class<?> c : WindSigned.class.getDeclaredClasses()) {
            check(Modifier.isStatic(c.getModifiers()) && !Modifier.isPublic(c.getModifiers())
                    && !Modifier.isProtected(c.getModifiers()), "rules 1, 2: " + c);
        }
        String source = Files.readString(Path.of("src/main/java/WindSigned.java"));
        faceOfTheDocument(source);
        words(source);
        lengths(source);
        room();
        System.out.println("RulesTest: " + (wrong == 0 ? "all rules kept" : wrong + " rules broken"));
        if (wrong != 0) {
            System.exit(1);
        }
    }

    private static void check(boolean holds, String what) {
        if (!holds) {
            wrong++;
            System.out.println(what);
        }
    }

    private static Set<String> faceNames() {
        Set<String> names = new TreeSet<>();
        for (String entry : FACE.split(",")) {
            names.add(entry.split(" ")[0]);
        }
        return names;
    }

    private static void face() throws Exception {
        check(Modifier.isPublic(WindSigned.class.getModifiers()) && Modifier.isFinal(WindSigned.class.getModifiers()),
                "rule 1: public and final");
        Set<String> due = new TreeSet<>();
        for (String entry : FACE.split(",")) {
            due.add(entry.trim());
        }
        check(due.size() == 73 - 1, "the face has " + due.size() + " methods");
        Set<String> found = new TreeSet<>();
        for (Method m : WindSigned.class.getDeclaredMethods()) {
            if (!Modifier.isPrivate(m.getModifiers())) {
                StringBuilder entry = new StringBuilder(m.getName());
                for (Class<?> p : m.getParameterTypes()) {
                    entry.append(entry.indexOf(" ") < 0 ? " " : "").append(p == int.class ? 'i' : p == long.class ? 'l' : '?');
                }
                found.add(entry.toString());
                boolean isLong = m.getName().equals("chance") || m.getName().equals("mean");
                check(m.getReturnType() == (isLong ? long.class : int.class), "rule 1: what " + m + " answers");
                check(Modifier.isPublic(m.getModifiers()) && !Modifier.isStatic(m.getModifiers()), "rule 1: " + m);
            }
        }
        check(due.equals(found), "rule 1: the face is " + found);
        for (Field f : WindSigned.class.getDeclaredFields()) {
            check(Modifier.isPrivate(f.getModifiers()) || f.getName().equals("NONE"), "rule 1: " + f);
        }
        Constructor<?>[] made = WindSigned.class.getDeclaredConstructors();
        check(made.length == 1 && made[0].getParameterCount() == 0 && Modifier.isPublic(made[0].getModifiers()),
                "rule 1: the constructor");
        check(Modifier.isFinal(WindSigned.class.getField("NONE").getModifiers()) && WindSigned.NONE == -1, "NONE");
    }

    /** Line by line as the document writes it, with the names of parameters, and nothing public beside it. */
    private static void faceOfTheDocument(String source) throws Exception {
        String document = Files.readString(Path.of("../shared/DOC.md"));
        String block = document.substring(document.indexOf("```java\n") + 8);
        List<String> due = new ArrayList<>();
        for (String line : block.substring(0, block.indexOf("```")).split("\n")) {
            if (line.contains("public ")) {
                due.add(line.replaceAll(" *[;{]$", ""));
            }
        }
        check(due.size() == 1 + 1 + 1 + faceNames().size(), "the document's face has " + due.size() + " lines");
        List<String> found = new ArrayList<>();
        for (String line : source.split("\n")) {
            if (line.contains("public ")) {
                found.add(line.replaceAll(" *[;{]$", ""));
            }
        }
        for (String line : due) {
            check(found.remove(line), "the document's face has: " + line);
        }
        check(found.isEmpty(), "the document's face does not have: " + found);
    }

    private static void members(Class<?> c) {
        int fields = 0;
        for (Field f : c.getDeclaredFields()) {
            boolean isStatic = Modifier.isStatic(f.getModifiers());
            check(!isStatic || Modifier.isFinal(f.getModifiers()), "rule 5: " + f);
            fields += isStatic ? 0 : 1;
        }
        check(fields <= 20, "rule 11: " + fields + " fields in " + c);
        for (Method m : c.getDeclaredMethods()) {
            check(m.getParameterCount() <= 7, "rule 11: " + m);
            check(!m.isSynthetic(), "rule 2: " + m);
            check(c == WindSigned.class && Modifier.isPublic(m.getModifiers()) || !faceNames().contains(m.getName()),
                    "rule 1: a name of the face: " + m);
        }
    }

    private static String withoutCommentsAndTexts(String source) {
        return source.replaceAll("(?s)/\\*.*?\\*/", "").replaceAll("//[^\n]*", "").replaceAll("\"[^\"\n]*\"", "\"\"")
                .replaceAll("'[^']'", "' '");
    }

    private static void words(String source) {
        String code = withoutCommentsAndTexts(source);
        for (String word : List.of("throw", "throws", "try", "catch", "finally", "synchronized", "assert", "instanceof",
                "double", "float", "Object", "Thread", "Random", "System\\.(?!arraycopy)", "->", "::", "\\w+Exact",
                "static \\{", "protected", "package", "hashCode", "toString", "int\\[\\]\\[\\]\\[")) {
            check(!java.util.regex.Pattern.compile(word.matches("\\w+") ? "\\b" + word + "\\b" : word).matcher(code).find(),
                    "a word not to be used: " + word);
        }
        for (String line : code.split("\n")) {
            check(!line.startsWith("import") || line.equals("import java.util.Arrays;"), "rule 4: " + line);
        }
        for (char c : source.toCharArray()) {
            check(c == '\n' || c >= 32 && c < 127, "rule 4: the sign " + (int) c);
        }
    }

    private static void lengths(String source) {
        String head = "";
        int since = 0;
        int number = 0;
        for (String line : source.split("\n")) {
            number++;
            String indent = line.replaceAll("\\S.*", "");
            if (line.endsWith("{") && line.contains("(") && (indent.length() == 4 || indent.length() == 8)
                    && !line.matches("\\s*(if|for|while|switch|\\}).*")) {
                head = line.trim();
                since = number;
            }
            if (line.trim().equals("}") && indent.length() <= 8 && !head.isEmpty()) {
                check(number - since < 60, "rule 11: " + head + " has " + (number - since) + " lines");
                head = indent.length() == 4 ? "" : head;
            }
            check(line.length() <= 120, "a long line: " + number);
        }
    }

    /** A run has 512 calls and one room for what they make; the dearest calls are to make nothing. */
    private static void room() {
        StringBuilder text = new StringBuilder("plain days 14 law 3 odds 5 wide 9 high 9;house 0 0;house 8 8;house 0 8;");
        for (int i = 0; i < 8; i++) {
            text.append("shelter ").append(i).append(" 0;");
        }
        text.append("thing weighs 0 at 4 4 for 0;".repeat(6));
        for (int i = 0; i < 9; i++) {
            text.append("wind ").append(i % 4).append(" 40 at ").append(i).append(';');
        }
        byte[] bytes = Arrays.copyOf(text.toString().getBytes(), 700);
        java.nio.ByteBuffer words = java.nio.ByteBuffer.wrap(bytes);
        com.sun.management.ThreadMXBean meter = (com.sun.management.ThreadMXBean) ManagementFactory.getThreadMXBean();
        long me = Thread.currentThread().getId();
        new WindSigned().plain();
        meter.getThreadAllocatedBytes(me);
        long before = meter.getThreadAllocatedBytes(me);
        WindSigned w = new WindSigned();
        long made = meter.getThreadAllocatedBytes(me) - before;
        check(made < 40000, "an object takes " + made + " bytes");
        before = meter.getThreadAllocatedBytes(me);
        while (words.remaining() >= 20) {
            w.feed(words.getInt(), words.getInt(), words.getInt(), words.getInt(), words.getInt());
        }
        w.end(text.length());
        check(w.plain() == 27, "the text of the room test is told");
        w.row(0, 0, 2);
        for (int i = 0; i < 30; i++) {
            w.blows(i % 4, 40, i % 14);
        }
        for (int i = 0; i < 10; i++) {
            w.bring(0, 2);
            w.share(0, 0);
            w.mean(0, 0);
            w.chance(0, 1);
            w.ask(0, 0);
            w.laws(0, 0);
            w.blame();
            w.burden();
            w.rests(0, 1);
            w.luck(0, 20, 0);
            w.strewn();
            w.keep(0);
            w.image(i % 3);
            w.back(i % 3);
            w.row(1, 3, 60);
        }
        long more = meter.getThreadAllocatedBytes(me) - before;
        check(more < 2000, "calls make " + more + " bytes");
    }
}
