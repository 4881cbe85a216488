import java.util.Arrays;
import java.util.Random;

/** Texts with all sorts of FAULTS, made up by a seed: the class and the model must find the same one. */
public final class FaultFuzzTest {
    private static final int RUNS = 20000;

    private FaultFuzzTest() {
    }

    public static void main(String[] args) {
        int runs = args.length > 0 ? Integer.parseInt(args[0]) : RUNS;
        int[] faults = new int[7];
        int wrong = 0;
        SchoolLosing school = new SchoolLosing();
        Model model = new Model();
        for (int run = 0; run < runs && wrong < 10; run++) {
            Random random = new Random(104729L * run + 3);
            String text = Texts.madeUp(random);
            text = random.nextInt(4) == 0 ? text : Texts.twisted(random, text);
            text = random.nextInt(10) > 0 ? text : Texts.spoilt(random, text);
            if (text.length() > 1980) {
                continue;
            }
            for (int[] f : Texts.feeds(text)) {
                school.feed(f[0], f[1], f[2], f[3], f[4]);
                model.feed(f[0], f[1], f[2], f[3], f[4]);
            }
            school.back(Texts.tooMany(text));
            model.back(Texts.tooMany(text));
            int got = school.read();
            int due = model.read();
            faults[due]++;
            if (got != due || school.place() != model.place() || !look(school, model)) {
                wrong++;
                System.out.println("fault " + got + " at " + school.place() + ", due is " + due + " at "
                    + model.place() + ": " + text);
            }
        }
        System.out.println("texts by their fault, 0 first: " + Arrays.toString(faults));
        System.out.println(wrong == 0 ? "all answers are as due" : wrong + " texts are not as due");
        if (wrong != 0) {
            System.exit(1);
        }
    }

    /** Whether the latest text without a FAULT stands in both. */
    private static boolean look(SchoolLosing school, Model model) {
        boolean same = true;
        for (int i = 0; i < 11; i++) {
            same &= school.count(i) == model.count(i);
        }
        for (int p = 0; p < 15; p++) {
            for (int what = 0; what < 4; what++) {
                same &= school.position(p, what) == model.position(p, what);
            }
            for (int m = 0; m < 4; m++) {
                same &= school.move(p, m, true) == model.move(p, m, true);
                same &= school.move(p, m, false) == model.move(p, m, false);
            }
        }
        for (int m = 0; m < 10; m++) {
            same &= school.pays(m) == model.pays(m);
        }
        return same;
    }
}
