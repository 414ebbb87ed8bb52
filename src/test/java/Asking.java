import java.nio.charset.StandardCharsets;
import java.util.ArrayList;
import java.util.Arrays;
import java.util.List;

/** What tests with answers worked out by hand have in common: answers due, texts told, what is seen of an object. */
abstract class Asking {
    /** As many of each as there may be: 6 houses, 8 shelters, 6 things, 9 winds. */
    static final String FULL = full();

    private static int asked = 0;
    private static int wrong = 0;
    private static String sentence = "";

    /** What the document says, as a failure is to name it. */
    static void says(String what) {
        sentence = what;
    }

    static void due(long want, long got, String call) {
        asked++;
        if (got != want) {
            fail(call + " answered " + got + ", due is " + want);
        }
    }

    static void due(long want, long got) {
        due(want, got, "the " + (asked + 1) + ". answer asked");
    }

    /** A row of answers in the order of the calls. */
    static void due(long[] wanted, long... got) {
        due(wanted.length, got.length, "how many answers a row has");
        for (int i = 0; i < Math.min(wanted.length, got.length); i++) {
            due(wanted[i], got[i], "answer " + i + " of " + Arrays.toString(got));
        }
    }

    static void fail(String what) {
        wrong++;
        System.out.println(sentence + " // " + what);
    }

    static long[] of(long... numbers) {
        return numbers;
    }

    static void finish(String name) {
        System.out.println(name + ": " + asked + " answers asked, " + wrong + " not as due");
        if (wrong != 0) {
            System.exit(1);
        }
    }

    /** The bytes of a text come behind the tape, one for each sign. */
    static void feed(WindSigned w, String text) {
        byte[] bytes = text.getBytes(StandardCharsets.ISO_8859_1);
        int before = w.count(11);
        for (int i = 0; i < bytes.length; i += 20) {
            int[] n = new int[5];
            for (int j = 0; j < 20; j++) {
                n[j / 4] = n[j / 4] << 8 | (i + j < bytes.length ? bytes[i + j] & 255 : 0);
            }
            w.feed(n[0], n[1], n[2], n[3], n[4]);
        }
        w.end(before + bytes.length);
    }

    static WindSigned told(String text) {
        WindSigned w = new WindSigned();
        feed(w, text);
        if (w.plain() < 0) {
            fail("fault " + w.fault(0) + " at " + w.fault(1) + " in " + text);
        }
        return w;
    }

    static void row(WindSigned w, int slot, int width, long... numbers) {
        due(0, w.row(slot, width, numbers.length), "row");
        for (int i = 0; i < numbers.length; i++) {
            due(0, w.write(slot, i, numbers[i]), "write");
        }
    }

    static long[] guesses(WindSigned w, int slot, int thing) {
        return of(w.weights(slot, thing), w.least(slot, thing), w.greatest(slot, thing), w.ask(slot, thing),
                w.leaves(slot, thing), w.laws(slot, thing));
    }

    private static String full() {
        StringBuilder text = new StringBuilder("plain days 14 law 3 odds 10 wide 9 high 9;");
        for (int i = 0; i < 6; i++) {
            text.append("house ").append(i).append(" 8;");
        }
        for (int i = 0; i < 8; i++) {
            text.append("shelter ").append(i).append(" 7;");
        }
        for (int i = 0; i < 6; i++) {
            text.append("thing weighs ").append(30 - i).append(" at 8 ").append(i).append(" for ").append(i);
            text.append(';');
        }
        for (int i = 0; i < 9; i++) {
            text.append("wind ").append(i % 4).append(' ').append(40 - i).append(" at ").append(13 - i).append(';');
        }
        return text.toString();
    }

    /** What questions tell of an object, in so few calls that an object can be asked thrice in its 512. */
    static List<Long> seen(WindSigned w) {
        List<Long> answers = new ArrayList<>();
        for (int n = 0; n < 13; n++) {
            add(answers, w.count(n));
        }
        for (int n = 0; n < 6 && n <= w.count(5); n++) {
            add(answers, w.house(n));
        }
        for (int n = 0; n < 8 && n <= w.count(6); n++) {
            add(answers, w.shelter(n));
        }
        for (int n = 0; n < 9 && n <= w.count(8); n++) {
            add(answers, w.wind(n, 0), w.wind(n, 1), w.wind(n, 2), w.moves(n));
        }
        for (int thing = 0; thing < w.count(7); thing++) {
            add(answers, w.thing(thing, 0), w.thing(thing, 1), w.thing(thing, 2), w.worn(thing), w.mean(thing, 0));
            for (int day = 0; day <= w.count(0); day++) {
                add(answers, w.at(thing, day));
            }
        }
        for (int slot = 0; slot < 4; slot++) {
            add(answers, w.weights(slot, 0), w.laws(slot, 0));
        }
        add(answers, w.heir(), w.lulls(), w.gale(), w.idle(), w.blame(), w.burden(), w.law(), w.worth(0), w.drawn(7, 1));
        return answers;
    }

    private static void add(List<Long> answers, long... more) {
        for (long answer : more) {
            answers.add(answer);
        }
    }
}
