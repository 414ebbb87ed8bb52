import java.lang.reflect.Method;
import java.util.ArrayList;
import java.util.Arrays;
import java.util.Comparator;
import java.util.List;
import java.util.Random;

/** Random runs of calls, each answered by the program and by the model; the two must agree. */
public final class ModelTest {
    private static final int RUNS = 600;

    private final Random random;
    private final WindSigned program = new WindSigned();
    private final Model model = new Model();
    private final List<String> calls = new ArrayList<>();
    private int days = 4, wide = 4, high = 4;

    private ModelTest(long seed) {
        random = new Random(seed);
    }

    public static void main(String[] args) throws Exception {
        int runs = args.length > 0 ? Integer.parseInt(args[0]) : RUNS;
        int first = args.length > 1 ? Integer.parseInt(args[1]) : 0;
        Method[] methods = WindSigned.class.getDeclaredMethods();
        List<Method> face = new ArrayList<>();
        for (Method m : methods) {
            if (java.lang.reflect.Modifier.isPublic(m.getModifiers())) {
                face.add(m);
            }
        }
        face.sort(Comparator.comparing(Method::getName));
        long compared = 0;
        for (int seed = first; seed < first + runs; seed++) {
            ModelTest test = new ModelTest(seed);
            String wrong = test.play(face);
            compared += test.calls.size();
            if (wrong != null) {
                System.out.println("ModelTest, seed " + seed + ":");
                test.calls.forEach(c -> System.out.println("  " + c));
                System.out.println(wrong);
                System.exit(1);
            }
        }
        System.out.println("ModelTest: " + compared + " calls answered alike in " + runs + " runs");
    }

    private String play(List<Method> face) throws Exception {
        String wrong = null;
        for (int i = 0; i < 4 && wrong == null; i++) {
            wrong = tell(random.nextInt(6) == 0 ? spoilt(text()) : text());
            boolean manyActs = random.nextInt(4) == 0;
            for (int j = 0; j < 110 && wrong == null; j++) {
                int kind = random.nextInt(24);
                if (kind == 0) {
                    wrong = see();
                } else if (kind < 8 && manyActs) {
                    wrong = act();
                } else {
                    wrong = callAny(face);
                }
            }
        }
        return wrong;
    }

    private String callAny(List<Method> face) throws Exception {
        Method m = face.get(random.nextInt(face.size()));
        // Texts come by tell(), and a plain and its acts are to stand for a while.
        if (List.of("feed", "end", "plain", "anew", "back", "row").contains(m.getName()) && random.nextInt(8) != 0) {
            return null;
        }
        // The model takes long for these.
        if (List.of("share", "bring").contains(m.getName()) && random.nextInt(3) != 0) {
            return null;
        }
        return call(m, argumentsFor(m));
    }

    // A row as a thing may have lain, at times with a place that it did not have.
    private String see() throws Exception {
        int slot = random.nextInt(4);
        int thing = random.nextInt(4);
        int pairs = random.nextInt(4);
        String wrong = call(face("row", int.class, int.class, int.class),
                new Object[] {slot, random.nextInt(4), 2 * pairs});
        int before = model.thing(thing, 0);
        model.rate(thing, random.nextInt(31));
        long[] row = new long[2 * pairs];
        for (int i = 0; i < 2 * pairs; i += 2) {
            row[i] = random.nextInt(days + 1);
            row[i + 1] = random.nextInt(12) == 0 ? ordinary("seen") : model.at(thing, (int) row[i]);
        }
        model.rate(thing, before);
        for (int i = 0; i < row.length && wrong == null; i++) {
            wrong = call(face("write", int.class, int.class, long.class), new Object[] {slot, i, row[i]});
        }
        for (String name : List.of("weights", "least", "greatest", "ask", "leaves", "laws")) {
            wrong = wrong != null ? wrong : call(face(name, int.class, int.class), new Object[] {slot, thing});
        }
        return wrong;
    }

    private String act() throws Exception {
        Method m = random.nextBoolean() ? face("blows", int.class, int.class, int.class)
                : face("brings", int.class, int.class, int.class);
        return call(m, argumentsFor(m));
    }

    private String call(Method m, Object[] arguments) throws Exception {
        Object got = m.invoke(program, arguments);
        Object due = Model.class.getMethod(m.getName(), m.getParameterTypes()).invoke(model, arguments);
        String told = m.getName() + Arrays.toString(arguments);
        calls.add(told + " -> " + due);
        return got.equals(due) ? null : told + " answered " + got + ", due is " + due;
    }

    private Object[] argumentsFor(Method m) {
        Object[] arguments = new Object[m.getParameterCount()];
        String[] kinds = kindsOf(m.getName());
        for (int i = 0; i < arguments.length; i++) {
            long v = random.nextInt(25) == 0 ? odd() : ordinary(kinds[i]);
            arguments[i] = m.getParameterTypes()[i] == long.class ? (Object) v : (Object) (int) v;
        }
        return arguments;
    }

    private static String[] kindsOf(String name) {
        return switch (name) {
            case "feed" -> new String[] {"any", "any", "any", "any", "any"};
            case "end" -> new String[] {"n700"};
            case "fault", "image", "back" -> new String[] {"n3"};
            case "house" -> new String[] {"house"};
            case "shelter" -> new String[] {"n8"};
            case "thing" -> new String[] {"thing", "n3"};
            case "wind" -> new String[] {"n9", "n3"};
            case "moves" -> new String[] {"n9"};
            case "at", "steps", "had", "lee" -> new String[] {"thing", "day"};
            case "here" -> new String[] {"cell", "day"};
            case "moved", "signed", "gone", "right", "rich", "heap", "under", "edge", "force" -> new String[] {"day"};
            case "worn", "received", "waits", "home", "far", "mostly", "movers", "keep", "keeps" ->
                new String[] {"thing"};
            case "has" -> new String[] {"house", "day"};
            case "apart" -> new String[] {"thing", "thing", "day"};
            case "meet" -> new String[] {"thing", "thing"};
            case "blow" -> new String[] {"thing", "house", "day", "n4"};
            case "bring" -> new String[] {"thing", "house"};
            case "weights", "least", "greatest", "ask", "leaves", "laws" -> new String[] {"n4", "thing"};
            case "by" -> new String[] {"n4"};
            case "worth" -> new String[] {"set"};
            case "share" -> new String[] {"n8", "n2"};
            case "rests" -> new String[] {"house", "house"};
            case "gets" -> new String[] {"house", "house", "n2", "n2"};
            case "chance", "mean" -> new String[] {"thing", "n2"};
            case "blows" -> new String[] {"n4", "force", "day"};
            case "brings" -> new String[] {"thing", "cell", "day"};
            case "drawn" -> new String[] {"seed", "n2"};
            case "luck" -> new String[] {"seed", "n20", "thing"};
            case "rate" -> new String[] {"thing", "n31"};
            case "count" -> new String[] {"n13"};
            case "row" -> new String[] {"n4", "n4", "n8"};
            case "write" -> new String[] {"n4", "n8", "seen"};
            case "paste" -> new String[] {"n4", "n4", "n4", "n4", "n4"};
            default -> new String[] {};
        };
    }

    private long ordinary(String kind) {
        if (kind.startsWith("n")) {
            return random.nextInt(Integer.parseInt(kind.substring(1)));
        }
        return switch (kind) {
            case "thing", "house" -> random.nextInt(random.nextInt(5) == 0 ? 7 : 3);
            case "day" -> random.nextInt(days + 1);
            case "cell" -> 10 * random.nextInt(wide) + random.nextInt(high);
            case "force" -> 1 + random.nextInt(40);
            case "set" -> random.nextInt(random.nextBoolean() ? 16 : 257);
            case "seed" -> random.nextInt(3) == 0 ? 2_000_000_000 - random.nextInt(3) : random.nextInt(100000);
            case "seen" -> switch (random.nextInt(4)) {
                case 0 -> -1;
                case 1 -> random.nextInt(days + 1);
                case 2 -> 256L * random.nextInt(3) + random.nextInt(days + 1);
                default -> 10 * random.nextInt(wide) + random.nextInt(high);
            };
            default -> random.nextInt();
        };
    }

    private long odd() {
        long[] odd = {-1, -2, 5, 6, 7, 8, 9, 13, 14, 15, 20, 21, 30, 31, 40, 41, 60, 61, 99, 100, 256, 700,
            2_000_000_001, Integer.MAX_VALUE, Integer.MIN_VALUE};
        return odd[random.nextInt(odd.length)];
    }

    private String tell(String text) throws Exception {
        String wrong = call(face("end", int.class), new Object[] {0});
        for (int i = 0; i < text.length() && wrong == null; i += 20) {
            Object[] words = new Object[5];
            for (int w = 0; w < 5; w++) {
                int word = 0;
                for (int b = 0; b < 4; b++) {
                    int at = i + 4 * w + b;
                    word = word << 8 | (at < text.length() ? text.charAt(at) & 255 : 0);
                }
                words[w] = word;
            }
            wrong = call(face("feed", int.class, int.class, int.class, int.class, int.class), words);
        }
        String[] rest = {"end", "plain", "fault0", "fault1"};
        for (int i = 0; i < rest.length && wrong == null; i++) {
            wrong = switch (i) {
                case 0 -> call(face("end", int.class), new Object[] {text.length()});
                case 1 -> call(face("plain"), new Object[] {});
                default -> call(face("fault", int.class), new Object[] {i - 2});
            };
        }
        return wrong;
    }

    private static Method face(String name, Class<?>... types) throws Exception {
        return WindSigned.class.getMethod(name, types);
    }

    // A text of a plain; short, so that it goes on a tape.
    private String text() {
        days = 1 + random.nextInt(random.nextBoolean() ? 14 : 4);
        wide = 2 + random.nextInt(random.nextBoolean() ? 8 : 3);
        high = 2 + random.nextInt(random.nextBoolean() ? 8 : 3);
        int odds = random.nextInt(3) == 0 ? 10 * random.nextInt(2) : random.nextInt(11);
        StringBuilder s = new StringBuilder();
        s.append("plain days ").append(days).append(" law ").append(random.nextInt(4)).append(" odds ").append(odds);
        s.append(" wide ").append(wide).append(" high ").append(high).append(";");
        // Now and then as many of each kind as there may be.
        boolean isFull = random.nextInt(16) == 0;
        int houses = isFull ? 6 : random.nextInt(12) == 0 ? 0 : 1 + random.nextInt(random.nextInt(30) == 0 ? 8 : 4);
        List<String> lines = new ArrayList<>();
        for (int i = 0; i < houses; i++) {
            s.append(blank()).append("house ").append(freshCell(i)).append(";");
        }
        int shelters = isFull ? 8 : random.nextInt(random.nextInt(30) == 0 ? 10 : 6);
        for (int i = 0; i < shelters; i++) {
            lines.add("shelter " + freshCell(i + 7) + ";");
        }
        int things = isFull ? 6 : random.nextInt(8) == 0 ? 0 : 1 + random.nextInt(random.nextInt(30) == 0 ? 8 : 4);
        for (int i = 0; i < things && houses > 0; i++) {
            int weight = random.nextInt(random.nextBoolean() ? 31 : 12);
            lines.add("thing weighs " + weight + " at " + random.nextInt(wide) + " " + random.nextInt(high) + " for "
                    + random.nextInt(houses) + ";");
        }
        int winds = isFull ? 9 : random.nextInt(random.nextInt(10) == 0 ? 12 : 7);
        for (int i = 0; i < winds; i++) {
            int day = random.nextInt(random.nextInt(8) == 0 ? 14 : days);
            lines.add("wind " + random.nextInt(4) + " " + (1 + random.nextInt(40)) + " at " + day + ";");
        }
        java.util.Collections.shuffle(lines, random);
        for (String line : lines) {
            if (s.length() + line.length() + 1 <= 690) {
                s.append(blank()).append(line);
            }
        }
        return s.toString();
    }

    private String blank() {
        return new String[] {"", " ", "\n", "  "}[random.nextInt(4)];
    }

    // Mostly a cell of its own; now and then one that may be taken.
    private String freshCell(int i) {
        if (random.nextInt(40) == 0) {
            return random.nextInt(wide) + " " + random.nextInt(high);
        }
        int n = Math.floorMod(i * 5 + (i >= 7 ? days : 0), wide * high);
        return n / high + " " + n % high;
    }

    private String spoilt(String text) {
        int at = random.nextInt(text.length());
        return switch (random.nextInt(6)) {
            case 0 -> text.substring(0, at);
            case 1 -> text.substring(0, at) + text.substring(at + 1);
            case 2 -> text.substring(0, at) + (char) random.nextInt(256) + text.substring(at + 1);
            case 3 -> text.substring(0, at) + random.nextInt(100) + text.substring(at);
            case 4 -> text.replaceFirst("house|at|thing|[0-9]+", "plain");
            default -> random.nextBoolean() ? "" : " \n ";
        };
    }
}
