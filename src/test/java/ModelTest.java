import java.lang.reflect.Method;
import java.lang.reflect.Modifier;
import java.util.ArrayList;
import java.util.Comparator;
import java.util.List;
import java.util.Random;

/** Runs of up to 512 calls, made up by a seed, on the class and on the model: every answer must be the same. */
public final class ModelTest {
    private static final int RUNS = 1500;

    private static int wrong;
    private static final int[] GOOD_AND_BAD = new int[7];

    private final SchoolLosing school = new SchoolLosing();
    private final Model model = new Model();
    private final Random random;
    private final int run;
    private final List<Method> faces;
    private final List<String> calls = new ArrayList<>();
    private boolean isWrong;

    private ModelTest(int run, List<Method> faces) {
        this.run = run;
        this.random = new Random(7919L * run + 1);
        this.faces = faces;
    }

    public static void main(String[] args) throws Exception {
        int runs = args.length > 0 ? Integer.parseInt(args[0]) : RUNS;
        List<Method> faces = new ArrayList<>();
        for (Method method : SchoolLosing.class.getDeclaredMethods()) {
            if (Modifier.isPublic(method.getModifiers())) {
                faces.add(method);
            }
        }
        faces.sort(Comparator.comparing(Method::getName));
        for (int run = 0; run < runs && wrong < 10; run++) {
            new ModelTest(run, faces).go();
        }
        System.out.println("texts by their fault, 0 first: " + java.util.Arrays.toString(GOOD_AND_BAD));
        System.out.println(wrong == 0 ? "all answers are as due" : wrong + " runs are not as due");
        if (wrong != 0) {
            System.exit(1);
        }
    }

    private void go() throws Exception {
        while (calls.size() < 512 && !isWrong) {
            int what = calls.isEmpty() ? 0 : random.nextInt(60);
            if (what == 0 && calls.size() < 300) {
                tellText();
            } else if (what < 12) {
                call("steps", random.nextInt(6));
            } else if (what < 16) {
                call("make", random.nextInt(3));
            } else if (what < 22) {
                call("begin", random.nextInt(15), random.nextInt(6), random.nextInt(6), random.nextInt(3),
                    random.nextInt(3));
            } else {
                callAny(faces.get(random.nextInt(faces.size())));
            }
            if (!isWrong && calls.size() < 490 && random.nextInt(5) == 0) {
                lookAround();
            }
        }
    }

    private void tellText() throws Exception {
        String text = Texts.madeUp(random);
        boolean spoil = random.nextInt(3) == 0;
        text = spoil ? Texts.spoilt(random, text) : text;
        for (int[] f : Texts.feeds(text)) {
            call("feed", f[0], f[1], f[2], f[3], f[4]);
        }
        call("back", Texts.tooMany(text));
        int fault = ((Number) call("read")).intValue();
        GOOD_AND_BAD[fault]++;
        call("place");
    }

    private void lookAround() throws Exception {
        call("count", random.nextInt(12));
        call("man", random.nextInt(6), random.nextInt(8));
        call("game", random.nextInt(7));
    }

    private void callAny(Method face) throws Exception {
        String name = face.getName();
        if (name.equals("feed") || name.equals("read") || name.equals("restore") || name.equals("forget")) {
            if (random.nextInt(4) > 0) {
                return;
            }
        }
        Class<?>[] types = face.getParameterTypes();
        Object[] arguments = new Object[types.length];
        for (int i = 0; i < types.length; i++) {
            arguments[i] = types[i] == boolean.class ? (Object) random.nextBoolean() : (Object) number(name, i);
        }
        call(name, arguments);
    }

    private int number(String name, int i) {
        if (random.nextInt(60) == 0) {
            int[] far = {Integer.MAX_VALUE, Integer.MIN_VALUE, -2, -1, 100, 32, 64};
            return far[random.nextInt(far.length)];
        }
        if (name.equals("likely") || name.equals("most")) {
            if (i == 3) {
                return random.nextInt(15) == 0 ? random.nextInt(100) - 30 : random.nextInt(3) * 10 + random.nextInt(3);
            }
            if (i == 4) {
                return random.nextInt(20) - 10;
            }
        }
        if (i == 0 && !name.equals("man") && !name.equals("tell") && random.nextBoolean()) {
            return random.nextInt(14);
        }
        if (name.equals("tell") && i == 1) {
            return random.nextInt(14);
        }
        return random.nextInt(4) == 0 ? random.nextInt(14) - 2 : random.nextInt(6) - random.nextInt(2);
    }

    private Object call(String name, Object... arguments) throws Exception {
        Class<?>[] types = new Class<?>[arguments.length];
        for (int i = 0; i < types.length; i++) {
            types[i] = arguments[i] instanceof Boolean ? boolean.class : int.class;
        }
        Object got = SchoolLosing.class.getMethod(name, types).invoke(school, arguments);
        Object due = Model.class.getMethod(name, types).invoke(model, arguments);
        calls.add(name + java.util.Arrays.toString(arguments) + " " + got);
        if (!got.equals(due) && !isWrong) {
            isWrong = true;
            wrong++;
            System.out.println("run " + run + ", call " + calls.size() + ": " + calls.get(calls.size() - 1)
                + ", due is " + due);
        }
        return got;
    }
}
