import java.util.Random;

/**
 * LAWS as deep, as long and as many as a text can hold, and one more (promise 4, ROOM), made up by a seed: what they
 * tell by pays (29), fine (28), order (23), courts (24), seen (19) and learn (13) must be what the model tells.
 */
public final class DeepLawTest {
    private static final int RUNS = 4000;
    private static final String HEAD = "end e 1;end f-1;turn t 0 e 3 f 5;man a 3 4;man b 7 2;lesson l 9;lesson m 40 l;"
        + "court c 5;court d 8;";
    private static final String[] LAWS = {"sees", "learns", "suits", "pays"};
    private static final String[] VARS = {"shows", "eye", "skill", "hours", "had", "which", "pride", "margin", "seen"};

    private final Random random;
    private final SchoolLosing school = new SchoolLosing();
    private final Model model = new Model();

    private DeepLawTest(int run) {
        random = new Random(31L * run + 7);
    }

    public static void main(String[] args) {
        int runs = args.length > 0 ? Integer.parseInt(args[0]) : RUNS;
        int wrong = 0;
        int good = 0;
        int tooLong = 0;
        for (int run = 0; run < runs && wrong < 10; run++) {
            DeepLawTest test = new DeepLawTest(run);
            String text = test.text();
            if (text.length() > 1980) {
                tooLong++;
            } else if (!test.isAsDue(text)) {
                wrong++;
                System.out.println("run " + run + ": " + text);
            } else {
                good += test.school.count(0) > 0 ? 1 : 0;
            }
        }
        System.out.println(good + " texts without a fault, " + tooLong + " too long for the tape");
        System.out.println(wrong == 0 ? "all answers are as due" : wrong + " texts are not as due");
        if (wrong != 0) {
            System.exit(1);
        }
    }

    private String text() {
        StringBuilder text = new StringBuilder(HEAD);
        int laws = 1 + random.nextInt(6);
        for (int i = 0; i < laws; i++) {
            text.append(LAWS[random.nextInt(LAWS.length)]).append('=');
            int ifs = random.nextInt(4) == 0 ? random.nextInt(6) : 0;
            for (int j = 0; j < ifs; j++) {
                text.append("if ").append(side()).append('<').append(side()).append(" then ").append(sum(2))
                    .append(" else ");
            }
            text.append(random.nextInt(3) == 0 ? waiting(random.nextInt(8)) : sum(1 + random.nextInt(7))).append(';');
        }
        return text.toString();
    }

    private String side() {
        return random.nextBoolean() ? waiting(random.nextInt(7)) : sum(3);
    }

    /** At each depth a sum and a product wait for what stands right of them. */
    private String waiting(int depth) {
        String left = (random.nextBoolean() ? "margin" : String.valueOf(random.nextInt(9)))
            + (random.nextBoolean() ? "-" : "+") + (1 + random.nextInt(5)) + (random.nextBoolean() ? "*" : "/");
        if (depth == 0) {
            return left + "3";
        }
        return left + "(" + waiting(depth - 1) + ")" + (random.nextInt(3) == 0 ? "*2" : "")
            + (random.nextInt(3) == 0 ? "-margin" : "");
    }

    private String sum(int depth) {
        StringBuilder sum = new StringBuilder(unit(depth));
        int more = random.nextInt(4);
        for (int i = 0; i < more; i++) {
            sum.append("+-*/".charAt(random.nextInt(4))).append(unit(depth));
        }
        return sum.toString();
    }

    private String unit(int depth) {
        if (depth > 0 && random.nextBoolean()) {
            return "(" + sum(depth - 1) + ")";
        }
        return random.nextBoolean() ? String.valueOf(random.nextInt(random.nextInt(4) == 0 ? 10000 : 10))
            : VARS[random.nextInt(VARS.length)];
    }

    private boolean isAsDue(String text) {
        for (int[] f : Texts.feeds(text)) {
            school.feed(f[0], f[1], f[2], f[3], f[4]);
            model.feed(f[0], f[1], f[2], f[3], f[4]);
        }
        school.back(Texts.tooMany(text));
        model.back(Texts.tooMany(text));
        boolean same = school.read() == model.read() && school.place() == model.place();
        for (int i = -1; i <= 10; i++) {
            same &= school.pays(i) == model.pays(i) && school.order(i) == model.order(i);
            same &= school.courts(i) == model.courts(i);
            same &= school.seen(2, 0, 0, 1, i) == model.seen(2, 0, 0, 1, i);
            same &= school.seen(2, 1, 1, 0, i) == model.seen(2, 1, 1, 0, i);
        }
        same &= school.fine() == model.fine();
        same &= school.learn(1, 0) == model.learn(1, 0) && school.learn(1, 1) == model.learn(1, 1);
        return same && school.courts(SchoolLosing.NONE) == model.courts(-1);
    }
}
