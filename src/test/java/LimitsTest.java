import java.lang.reflect.Method;
import java.util.Arrays;

/**
 * The ends of what each argument of each call may be: the least and the most are taken, one below and one above them
 * are refused, and so is what lies far off; where a call is refused, nothing happens.
 */
public final class LimitsTest {
    private static final int NONE = SchoolLosing.NONE;
    private static final Dues DUES = new Dues();

    /** A text, told behind another one, that has TURNS from firstTurn on, the last of them with three MOVES. */
    private record Room(String ahead, String text, int firstTurn, int positions, int men, int lessons, int courts,
        int dice, int rests, int told) {
    }

    private record Span(int least, int most, int usual) {
    }

    private static final Room FULL = new Room("", Texts.FULL, 4, 14, 6, 6, 5, 4, 16, 5);

    /** Fewer of each sort, with more of them in the text ahead. */
    private static final Room SMALL = new Room(Texts.FULL, "end e 1; end f - 2; turn t 0 e 1 f 2; turn u 1 t 3 e 4 f 5; "
        + "man ma 1 1; man mb 2 2; man mc 3 3; man md 4 4; lesson la 7; lesson lb 8; court ca 1; court cb 2; "
        + "die da 1 1 1 1 1 1; die db 2 2 2 2 2 2;", 2, 4, 4, 2, 2, 2, 3, 2);

    private LimitsTest() {
    }

    public static void main(String[] args) throws Exception {
        for (Room room : new Room[] {FULL, SMALL}) {
            tapeAndText(room);
            gamesByHand(room);
            games(room);
            likelihoods(room);
            theRest(room);
        }
        DUES.end();
    }

    private static void tapeAndText(Room room) throws Exception {
        look(room, 3, "back", NONE, upTo(40));
        look(room, 6, "position", -100, positions(room), upTo(3));
        look(room, 7, "move", NONE, turns(room), upTo(2));
        look(room, 8, "man", -100000, men(room, 1), upTo(7));
        look(room, 9, "game", NONE, upTo(6));
        look(room, 36, "count", NONE, upTo(10));
    }

    private static void gamesByHand(Room room) throws Exception {
        look(room, 10, "begin", 0, turns(room), men(room, 1), men(room, 2), upTo(2), upTo(2));
        look(room, 11, "steps", NONE, upTo(5));
        look(room, 12, "make", NONE, upTo(2));
        look(room, 13, "learn", NONE, men(room, 1), upTo(room.lessons - 1));
        look(room, 34, "hold", 0, upTo(2));
        look(room, 35, "restore", 0, upTo(2));
    }

    private static void games(Room room) throws Exception {
        look(room, 15, "want", -100, positions(room), upTo(2), upTo(2));
        look(room, 16, "wants", NONE, positions(room), upTo(2), upTo(2));
        Span eyeOrNone = new Span(NONE, room.men - 1, 1);
        look(room, 17, "surely", NONE, positions(room), upTo(1), upTo(9), men(room, 1), eyeOrNone);
        look(room, 18, "loses", NONE, positions(room), upTo(1), men(room, 1), eyeOrNone);
        look(room, 19, "seen", NONE, turns(room), upTo(2), men(room, 1), men(room, 2), upTo(9));
    }

    private static void likelihoods(Room room) throws Exception {
        Span margin = new Span(-9, 9, 0);
        look(room, 21, "likely", NONE, positions(room), men(room, 1), men(room, 2), upTo(22), margin);
        look(room, 22, "most", -100, positions(room), men(room, 1), men(room, 2), upTo(22));
        SchoolLosing school = school(room);
        for (int aims = -40; aims <= 140; aims++) {
            boolean isTaken = aims >= 0 && aims / 10 <= 2 && aims % 10 <= 2;
            DUES.by(21, "aims: 10 * SIDE 0's + the other one's");
            DUES.due("aims " + aims, school.likely(room.firstTurn, 0, 1, aims, 0, true) != NONE, isTaken);
            DUES.by(22, "likewise");
            DUES.due("aims " + aims, school.most(room.firstTurn, 0, 1, aims) != -100, isTaken);
        }
    }

    private static void theRest(Room room) throws Exception {
        look(room, 23, "order", NONE, new Span(NONE, room.lessons - 1, 0));
        look(room, 24, "courts", NONE, new Span(NONE, room.courts - 1, 0));
        look(room, 25, "less", NONE, upTo(room.dice - 1), upTo(room.dice - 1));
        look(room, 26, "reply", NONE, upTo(room.dice - 1));
        look(room, 27, "rests", NONE, new Span(NONE, room.rests - 1, 0));
        look(room, 29, "pays", -100000, upTo(9));
        look(room, 30, "tell", NONE, men(room, 1), turns(room), upTo(2));
        look(room, 32, "meant", NONE, men(room, 1), upTo(room.told));
    }

    private static Span upTo(int most) {
        return new Span(0, most, 0);
    }

    private static Span positions(Room room) {
        return upTo(room.positions - 1);
    }

    private static Span turns(Room room) {
        return new Span(room.firstTurn, room.positions - 1, room.positions - 1);
    }

    /** The usual one is not at an end, so that two of them are never one and the same. */
    private static Span men(Room room, int usual) {
        return new Span(0, room.men - 1, usual);
    }

    /** A GAME is on, all SLOTS hold something, some are TOLD, 40 bytes are on the tape. */
    private static SchoolLosing school(Room room) {
        SchoolLosing school = new SchoolLosing();
        Texts.read(school, room.ahead);
        DUES.by(4, "0, or the number of its FAULT");
        DUES.due("read()", Texts.read(school, room.text), 0);
        school.begin(room.positions - 1, 2, 1, 0, 1);
        for (int slot = 0; slot < 3; slot++) {
            school.hold(slot);
        }
        for (int i = 0; i < 2; i++) {
            school.feed(0x20202020, 0x20202020, 0x20202020, 0x20202020, 0x20202020);
        }
        return school;
    }

    private static void look(Room room, int promise, String name, int refused, Span... spans) throws Exception {
        for (int i = 0; i < spans.length; i++) {
            int least = spans[i].least;
            int most = spans[i].most;
            for (int value : new int[] {least, most}) {
                take(room, promise, name, refused, arguments(spans, i, value));
            }
            for (int value : new int[] {least - 1, most + 1, most + 2, Integer.MIN_VALUE, Integer.MAX_VALUE}) {
                refuse(room, promise, name, refused, arguments(spans, i, value));
            }
        }
    }

    private static int[] arguments(Span[] spans, int which, int value) {
        int[] arguments = new int[spans.length];
        for (int i = 0; i < spans.length; i++) {
            arguments[i] = i == which ? value : spans[i].usual;
        }
        return arguments;
    }

    private static void take(Room room, int promise, String name, int refused, int[] arguments) throws Exception {
        SchoolLosing school = told(room, name);
        int got = call(school, name, arguments);
        DUES.by(promise, "the last that is taken");
        DUES.not(name + Arrays.toString(arguments), got, refused);
    }

    private static void refuse(Room room, int promise, String name, int refused, int[] arguments) throws Exception {
        SchoolLosing school = told(room, name);
        String ahead = Texts.picture(school);
        int got = call(school, name, arguments);
        DUES.by(promise, "the first that is refused");
        DUES.due(name + Arrays.toString(arguments), got, refused);
        DUES.by(promise, "and nothing happens");
        DUES.due("the picture behind " + name + Arrays.toString(arguments), Texts.picture(school), ahead);
    }

    /** With as many TOLD as the room says, or one less if one more is to be TOLD. */
    private static SchoolLosing told(Room room, String name) {
        SchoolLosing school = school(room);
        for (int i = 0; i < room.told - (name.equals("tell") ? 1 : 0); i++) {
            school.tell(i % room.men, room.positions - 1, i % 3);
        }
        return school;
    }

    private static int call(SchoolLosing school, String name, int[] arguments) throws Exception {
        for (Method method : SchoolLosing.class.getMethods()) {
            if (method.getName().equals(name)) {
                Object[] objects = new Object[method.getParameterCount()];
                for (int i = 0; i < objects.length; i++) {
                    objects[i] = i < arguments.length ? (Object) arguments[i] : (Object) Boolean.TRUE;
                }
                Object got = method.invoke(school, objects);
                return got instanceof Boolean ? ((Boolean) got ? 1 : 0) : (Integer) got;
            }
        }
        throw new IllegalArgumentException(name);
    }
}
