import java.io.PrintWriter;
import java.io.StringWriter;
import java.util.ArrayList;
import java.util.List;
import java.util.Map;
import java.util.Set;
import java.util.TreeMap;
import java.util.TreeSet;
import java.util.regex.Matcher;
import java.util.regex.Pattern;
import java.util.spi.ToolProvider;

/** Rules of LANGUAGE.md that can be seen from the compiled class, instruction by instruction. */
public final class BytecodeTest {
    /** What the program calls of the library; each stands in rule 4. */
    private static final Set<String> LIBRARY = Set.of("java/lang/Object.\"<init>\":()V", "java/lang/String.length:()I",
            "java/lang/String.charAt:(I)C", "java/lang/Math.abs:(I)I", "java/lang/Math.abs:(J)J",
            "java/lang/Math.max:(II)I", "java/lang/Math.min:(II)I", "java/lang/Integer.bitCount:(I)I",
            "java/util/Arrays.fill:([II)V", "java/util/Arrays.fill:([JJ)V",
            "java/lang/System.arraycopy:(Ljava/lang/Object;ILjava/lang/Object;II)V");
    /** Those that divide by what is no constant; each asks for 0 first. */
    private static final Set<String> DIVIDING = Set.of("WindSigned$Trials.commonDivisor", "WindSigned$Trials.partOfFraction");
    private static final int DEEPEST = 8;

    private static final Pattern INSTRUCTION = Pattern.compile("^ +\\d+: (\\w+)(?: +(.*))?$");

    private final Map<String, Set<String>> calls = new TreeMap<>();
    private final Map<String, Integer> depths = new TreeMap<>();
    private int wrong = 0;
    private int instructions = 0;

    public static void main(String[] args) {
        BytecodeTest test = new BytecodeTest();
        test.read();
        test.check(test.instructions > 2000, "rule 4: the class is read, and not a part of it alone");
        test.depths();
        System.out.println("BytecodeTest: " + test.instructions + " instructions, "
                + (test.wrong == 0 ? "all rules kept" : test.wrong + " rules broken"));
        if (test.wrong != 0) {
            System.exit(1);
        }
    }

    private void check(boolean holds, String what) {
        if (!holds) {
            wrong++;
            System.out.println(what);
        }
    }

    private static List<String> disassembled() {
        List<String> command = new ArrayList<>(List.of("-c", "-p", "-cp", System.getProperty("java.class.path"), "WindSigned"));
        for (Class<?> c : WindSigned.class.getDeclaredClasses()) {
            command.add(c.getName());
        }
        StringWriter text = new StringWriter();
        PrintWriter out = new PrintWriter(text);
        ToolProvider.findFirst("javap").orElseThrow().run(out, out, command.toArray(new String[0]));
        return text.toString().lines().toList();
    }

    private void read() {
        String type = "";
        String method = "";
        String before = "";
        for (String line : disassembled()) {
            Matcher head = Pattern.compile("\\bclass (WindSigned[$\\w]*) \\{$").matcher(line);
            Matcher member = Pattern.compile("^  (?:[^ ].* )?([$\\w]+)\\([^)]*\\);$").matcher(line);
            Matcher instruction = INSTRUCTION.matcher(line);
            if (head.find()) {
                type = head.group(1);
            } else if (member.find()) {
                // The calls of a method are told by its name alone: methods of one name count as one.
                method = type + "." + (member.group(1).equals(type) ? "\"<init>\"" : member.group(1));
                calls.putIfAbsent(method, new TreeSet<>());
            } else if (instruction.find()) {
                instructions++;
                instruction(type, method, instruction.group(1), instruction.group(2), before);
                before = instruction.group(1);
            }
            check(!line.contains("Exception table"), "rule 6: something is caught in " + method);
        }
    }

    private void instruction(String type, String method, String code, String rest, String before) {
        check(!Set.of("athrow", "monitorenter", "monitorexit", "jsr", "ret").contains(code), "rule 6: " + code + " in " + method);
        check(!Set.of("invokedynamic", "invokeinterface").contains(code), "rule 2: " + code + " in " + method);
        check(!Set.of("checkcast", "instanceof").contains(code), "rule 6: no cast is due here: " + method);
        check(!code.matches("[df](add|sub|mul|div|rem|neg|cmp.|load|store|return|const).*|[il]2[df]"),
                "no broken number is due here: " + method);
        if (Set.of("new", "newarray", "anewarray", "multianewarray").contains(code)) {
            check(method.endsWith("\"<init>\""), "rule 12: something is made in " + method);
        }
        if (Set.of("idiv", "irem", "ldiv", "lrem").contains(code)) {
            boolean byConstant = before.matches("bipush|sipush|ldc|ldc2_w|iconst_[1-5]|lconst_1");
            check(byConstant || DIVIDING.contains(method), "rule 7: " + method + " divides by what is no constant");
        }
        if (Set.of("putstatic", "getstatic").contains(code)) {
            check(method.endsWith("<clinit>"), "rule 5: " + code + " in " + method);
        }
        if (code.startsWith("invoke")) {
            called(type, method, rest.replaceAll(".*// Method ", ""));
        }
    }

    private void called(String type, String method, String target) {
        if (target.startsWith("java/")) {
            check(LIBRARY.contains(target), "rule 4: " + target + " in " + method);
            return;
        }
        // An array's clone would stand here with a class of its own.
        check(!target.startsWith("\"["), "rule 4: " + target + " in " + method);
        String name = target.replaceAll(":\\(.*", "");
        calls.get(method).add(name.contains(".") ? name : type + "." + name);
    }

    /** A call from outside is the first level; the constructor's are counted as others are. */
    private void depths() {
        int deepest = 0;
        for (String method : calls.keySet()) {
            deepest = Math.max(deepest, depth(method, new ArrayList<>()));
        }
        check(deepest > 3, "rule 11: calls are followed");
        check(deepest <= DEEPEST, "rule 11: calls go " + deepest + " deep");
    }

    private int depth(String method, List<String> open) {
        check(!open.contains(method), "rule 8: " + method + " comes back to itself by " + open);
        check(calls.containsKey(method), "rule 11: " + method + " is called and not read");
        if (open.contains(method) || !calls.containsKey(method)) {
            return 0;
        }
        if (!depths.containsKey(method)) {
            List<String> more = new ArrayList<>(open);
            more.add(method);
            int deepest = 0;
            for (String next : calls.get(method)) {
                deepest = Math.max(deepest, depth(next, more));
            }
            depths.put(method, deepest + 1);
        }
        return depths.get(method);
    }
}
