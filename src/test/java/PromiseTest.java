/** Each promise of the document by hand: ordinary inputs, the edges that it names, wrong inputs. */
public final class PromiseTest {
    private static final int NONE = SchoolLosing.NONE;

    /* POSITIONS 0 w, 1 l, 2 z, 3 big; 4 p (0: w, l), 5 q (1: p, z, big), 6 r (0: q, l). */
    private static final String GAMES = "end w 3; end l - 1; end z 0; end big - 5; turn p 0 w 1 l 4; "
        + "turn q 1 p 0 z 2 big 9; turn r 0 q 3 l 0; man ann 10 2; man bob 10 5; man cid 5 0; man dan 0 9; seed 7; "
        + "lesson la 10; lesson lb 20 la; lesson lc 5; sees = shows + eye - 7; ";

    private static int wrong;
    private static int promise;

    private PromiseTest() {
    }

    private static void due(String call, int got, int want) {
        if (got != want) {
            wrong++;
            System.out.println("promise " + promise + ": " + call + " answered " + got + ", due is " + want);
        }
    }

    private static void due(String call, boolean got, boolean want) {
        due(call, got ? 1 : 0, want ? 1 : 0);
    }

    private static void dueFraction(String call, int above, int below, int wantAbove, int wantBelow) {
        due(call + ", above", above, wantAbove);
        due(call + ", below", below, wantBelow);
    }

    private static SchoolLosing games() {
        return Texts.school(GAMES);
    }

    public static void main(String[] args) {
        newObject();
        tape();
        readAndPlace();
        positionAndMove();
        manAndGame();
        begin();
        steps();
        stepsByLot();
        make();
        learn();
        undo();
        want();
        surely();
        seen();
        cup();
        likely();
        order();
        courts();
        dice();
        fine();
        laws();
        tell();
        meant();
        set();
        holdAndRestore();
        count();
        System.out.println(wrong == 0 ? "all answers are as due" : wrong + " answers are not as due");
        if (wrong != 0) {
            System.exit(1);
        }
    }

    private static void newObject() {
        promise = 1;
        SchoolLosing x = new SchoolLosing();
        for (int i = 0; i <= 10; i++) {
            due("count(" + i + ")", x.count(i), 0);
        }
        due("place()", x.place(), NONE);
        due("game(0)", x.game(0), -2);
        due("undo()", x.undo(), false);
        due("restore(0)", x.restore(0), false);
        due("cup(false)", x.cup(false), NONE);
        due("order(NONE)", x.order(NONE), 0);
        due("courts(NONE)", x.courts(NONE), 0);
        due("rests(NONE)", x.rests(NONE), 0);
        due("fine()", x.fine(), 1);
        due("pays(9)", x.pays(9), 9);
        due("set()", x.set(), -2);
        due("forget()", x.forget(), 0);
        due("NONE", SchoolLosing.NONE, -1);
    }

    private static void tape() {
        promise = 2;
        SchoolLosing x = new SchoolLosing();
        for (int i = 1; i <= 100; i++) {
            due("feed", x.feed(0x20202020, 0x20202020, 0x20202020, 0x20202020, 0x20202020), 20 * i);
        }
        due("feed beyond", x.feed(0, 0, 0, 0, 0), NONE);
        due("count(7)", x.count(7), 2000);
        promise = 3;
        due("back(2001)", x.back(2001), NONE);
        due("back(-1)", x.back(-1), NONE);
        due("back(MIN)", x.back(Integer.MIN_VALUE), NONE);
        due("back(0)", x.back(0), 2000);
        due("back(19)", x.back(19), 1981);
        promise = 2;
        due("feed to 2001", x.feed(0, 0, 0, 0, 0), NONE);
        due("count(7)", x.count(7), 1981);
        promise = 3;
        due("back(1)", x.back(1), 1980);
        promise = 2;
        due("feed to 2000", x.feed(0, 0, 0, 0, 0), 2000);
        promise = 4;
        due("read() of 1,980 blanks and 20 zeros", x.read(), 1);
        promise = 5;
        due("place()", x.place(), 1980);
        promise = 3;
        due("back(1) of nothing", x.back(1), NONE);
        due("back(0) of nothing", x.back(0), 0);
        promise = 2;
        // "man " "abcd" "efgh" " 7 8" ";..." : the highest byte comes first
        due("feed", x.feed(0x6d616e20, 0x61626364, 0x65666768, 0x20372038, 0x3b202020), 20);
        due("read()", x.read(), 0);
        due("man(0, 0)", x.man(0, 0), 7);
        due("man(0, 1)", x.man(0, 1), 8);
        // bytes of 128 and more are no blanks, nor signs
        x.feed(0x20202020, 0x20bb2020, 0x20202020, 0x20202020, 0x20202020);
        due("read() of a byte 187", x.read(), 1);
        due("place()", x.place(), 5);
    }

    private static void readAndPlace() {
        promise = 4;
        SchoolLosing x = games();
        x.begin(6, 0, 1, 1, 0);
        x.steps(5);
        x.begin(6, 0, 1, 1, 0);
        x.learn(2, 0);
        x.hold(1);
        x.tell(0, 4, 0);
        due("read() with a fault", Texts.read(x, "end e 10; "), 5);
        promise = 5;
        due("place()", x.place(), 6);
        promise = 4;
        due("count(7)", x.count(7), 0);
        due("count(0)", x.count(0), 7);
        due("count(5)", x.count(5), 2);
        due("count(6)", x.count(6), 1);
        due("count(8)", x.count(8), 4);
        due("count(9)", x.count(9), 1);
        due("count(10)", x.count(10), 1);
        due("game(0)", x.game(0), 6);
        due("man(0, 4)", x.man(0, 4), -5);
        due("man(2, 2)", x.man(2, 2), 1);
        due("seen(4, 1, 0, 1, 0)", x.seen(4, 1, 0, 1, 0), 1);
        due("the same text again", Texts.read(x, GAMES), 0);
        promise = 5;
        due("place()", x.place(), NONE);
        promise = 4;
        due("count(0)", x.count(0), 7);
        for (int i = 5; i <= 10; i++) {
            due("count(" + i + ")", x.count(i), 0);
        }
        for (int what = 2; what <= 7; what++) {
            for (int man = 0; man < 4; man++) {
                due("man(" + man + ", " + what + ")", x.man(man, what), 0);
            }
        }
        due("game(0)", x.game(0), -2);
        due("restore(1)", x.restore(1), false);
        due("undo()", x.undo(), false);
        due("an empty text", x.read(), 0);
        for (int i = 0; i <= 10; i++) {
            due("count(" + i + ")", x.count(i), 0);
        }
        due("the law ahead is gone", Texts.read(x, "end e 1; turn t 0 e 9; man m 0 9; pays = 5;"), 0);
        due("seen(1, 0, 0, 0, 9)", x.seen(1, 0, 0, 0, 9), 0);
        due("pays(2)", x.pays(2), 5);
        due("read()", x.read(), 0);
        due("pays(2)", x.pays(2), 2);
    }

    private static void positionAndMove() {
        promise = 6;
        SchoolLosing x = games();
        int[][] want = {{-2, 3, 0, 0}, {-2, -1, 0, 0}, {-2, 0, 0, 0}, {-2, -5, 0, 0}, {0, 0, 2, 1}, {1, 0, 3, 2},
            {0, 0, 2, 3}};
        for (int p = 0; p < 7; p++) {
            for (int what = 0; what < 4; what++) {
                due("position(" + p + ", " + what + ")", x.position(p, what), want[p][what]);
            }
            due("position(" + p + ", 4)", x.position(p, 4), -100);
            due("position(" + p + ", -1)", x.position(p, -1), -100);
        }
        due("position(7, 0)", x.position(7, 0), -100);
        due("position(-1, 0)", x.position(-1, 0), -100);
        promise = 7;
        due("move(4, 0, false)", x.move(4, 0, false), 0);
        due("move(4, 0, true)", x.move(4, 0, true), 1);
        due("move(4, 1, false)", x.move(4, 1, false), 1);
        due("move(4, 1, true)", x.move(4, 1, true), 4);
        due("move(5, 2, false)", x.move(5, 2, false), 3);
        due("move(5, 2, true)", x.move(5, 2, true), 9);
        due("move(6, 0, false)", x.move(6, 0, false), 5);
        due("move(4, 2, false)", x.move(4, 2, false), NONE);
        due("move(4, -1, false)", x.move(4, -1, false), NONE);
        due("move(0, 0, true)", x.move(0, 0, true), NONE);
        due("move(7, 0, true)", x.move(7, 0, true), NONE);
        due("move(-1, 0, true)", x.move(-1, 0, true), NONE);
    }

    private static void manAndGame() {
        promise = 8;
        SchoolLosing x = games();
        due("man(2, 0)", x.man(2, 0), 5);
        due("man(2, 1)", x.man(2, 1), 0);
        due("man(3, 0)", x.man(3, 0), 0);
        due("man(3, 1)", x.man(3, 1), 9);
        due("man(4, 0)", x.man(4, 0), -100000);
        due("man(-1, 0)", x.man(-1, 0), -100000);
        due("man(0, 8)", x.man(0, 8), -100000);
        due("man(0, -1)", x.man(0, -1), -100000);
        promise = 9;
        for (int what = 0; what < 7; what++) {
            due("game(" + what + ")", x.game(what), -2);
        }
        due("game(7)", x.game(7), NONE);
        due("game(-1)", x.game(-1), NONE);
        x.begin(6, 3, 1, 2, 1);
        int[] want = {6, 3, 1, 2, 1, 0, 0};
        for (int what = 0; what < 7; what++) {
            due("game(" + what + ")", x.game(what), want[what]);
        }
        due("game(7)", x.game(7), NONE);
        due("game(-1)", x.game(-1), NONE);
    }

    private static void begin() {
        promise = 10;
        SchoolLosing x = games();
        due("an END", x.begin(0, 0, 1, 0, 0), false);
        due("no such POSITION", x.begin(7, 0, 1, 0, 0), false);
        due("no such POSITION", x.begin(-1, 0, 1, 0, 0), false);
        due("the same MAN", x.begin(6, 1, 1, 0, 0), false);
        due("no such MAN", x.begin(6, 4, 1, 0, 0), false);
        due("no such MAN", x.begin(6, 0, 4, 0, 0), false);
        due("no such MAN", x.begin(6, -1, 0, 0, 0), false);
        due("no such MAN", x.begin(6, 0, -1, 0, 0), false);
        due("no such AIM", x.begin(6, 0, 1, 3, 0), false);
        due("no such AIM", x.begin(6, 0, 1, 0, 3), false);
        due("no such AIM", x.begin(6, 0, 1, -1, 0), false);
        due("no such AIM", x.begin(6, 0, 1, 0, -1), false);
        due("count(8)", x.count(8), 0);
        due("game(0)", x.game(0), -2);
        due("begin", x.begin(6, 0, 1, 1, 0), true);
        x.make(0);
        due("game(5)", x.game(5), 1);
        due("begin in place of it", x.begin(5, 2, 0, 0, 2), true);
        due("game(0)", x.game(0), 5);
        due("game(1)", x.game(1), 2);
        due("game(5)", x.game(5), 0);
        due("man(0, 7)", x.man(0, 7), 0);
        due("count(5)", x.count(5), 1);
        due("count(6)", x.count(6), 0);
        due("count(8)", x.count(8), 3);
    }

    /** By MEN of full SKILL, who never slip. */
    private static void steps() {
        promise = 11;
        SchoolLosing x = games();
        due("steps(0), no GAME", x.steps(0), -2);
        due("steps(1), no GAME", x.steps(1), -2);
        due("steps(6), no GAME", x.steps(6), NONE);
        due("steps(-1), no GAME", x.steps(-1), NONE);
        x.begin(6, 0, 1, 1, 0);
        due("steps(6)", x.steps(6), NONE);
        due("steps(0)", x.steps(0), 0);
        due("count(8)", x.count(8), 1);
        due("steps(1)", x.steps(1), 1);
        due("game(0)", x.game(0), 5);
        // 3 shown, 5 the eye: seen; then 9 shown to an eye of 2
        due("game(5)", x.game(5), 1);
        due("game(6)", x.game(6), 0);
        due("count(8)", x.count(8), 2);
        due("steps(5)", x.steps(5), 1);
        due("game(0)", x.game(0), -2);
        due("count(5)", x.count(5), 2);
        due("count(6)", x.count(6), 1);
        int[] ann = {10, 2, 0, 0, -5, 1, 1, 1};
        int[] bob = {10, 5, 0, 0, 5, 0, 0, 1};
        for (int what = 0; what < 8; what++) {
            due("man(0, " + what + ")", x.man(0, what), ann[what]);
            due("man(1, " + what + ")", x.man(1, what), bob[what]);
            due("man(2, 7)", x.man(2, 7), 0);
        }
        due("steps(1), over", x.steps(1), -2);
        // bob as SIDE 0 wants to lose by one at p; ann's eye of 2 does not see what shows 4
        x.begin(4, 1, 0, 2, 0);
        due("steps(3)", x.steps(3), 1);
        due("man(1, 4)", x.man(1, 4), 4);
        due("man(1, 5)", x.man(1, 5), 1);
        due("man(1, 6)", x.man(1, 6), 0);
        due("man(0, 4)", x.man(0, 4), -4);
        due("man(0, 5)", x.man(0, 5), 1);
        // ann as SIDE 1 loses by 3, with nothing of hers seen: bob's eye of 5 does not see what shows 0
        x.begin(5, 1, 0, 0, 1);
        due("steps(5)", x.steps(5), 2);
        due("man(0, 4)", x.man(0, 4), -7);
        due("man(0, 5)", x.man(0, 5), 2);
        due("man(0, 6)", x.man(0, 6), 1);
        // a margin of 0 is lost by nobody
        x.begin(5, 1, 0, 2, 0);
        x.make(1);
        due("man(0, 5)", x.man(0, 5), 2);
        due("man(1, 5)", x.man(1, 5), 1);
        due("man(0, 7)", x.man(0, 7), 4);
    }

    /** SEED 7: LOT 10 of steps 0 .. 5 is 4, 9, 0, 8, 5, 9; LOT 2: 1, 1, 1, 1, 0, 0; LOT 3: 0, 1, 2, 0, 1, 2. */
    private static void stepsByLot() {
        promise = 11;
        SchoolLosing x = games();
        x.begin(5, 0, 2, 0, 0);
        due("4 is less than cid's 5: BY WANT, big", x.steps(1), 1);
        due("man(2, 4)", x.man(2, 4), 5);
        x.begin(5, 0, 2, 0, 0);
        due("9 is not: MOVE 1, z", x.steps(5), 1);
        due("man(2, 4)", x.man(2, 4), 5);
        due("man(2, 7)", x.man(2, 7), 2);
        x.begin(5, 0, 3, 0, 0);
        due("dan never goes BY WANT, 0 is not less than 0: MOVE 2, big", x.steps(5), 1);
        due("man(3, 4)", x.man(3, 4), 5);
        x.begin(5, 0, 2, 0, 0);
        due("8 is not: MOVE 0, p; then ann, w", x.steps(5), 2);
        due("count(5)", x.count(5), 5);
        due("man(2, 4)", x.man(2, 4), 2);
        x.begin(6, 2, 3, 0, 0);
        due("9 is not: MOVE 0, q", x.steps(1), 1);
        due("game(0)", x.game(0), 5);
        SchoolLosing y = Texts.school("end a 1; end b 2; end c 3; turn t 0 c 1 a 1 b 1; man m 6 0; man n 7 0;");
        y.begin(3, 0, 1, 0, 0);
        due("SEED 0: 6 is not less than 6: LOT 3 is 0, c", y.steps(1), 1);
        due("man(0, 4)", y.man(0, 4), 3);
        y.undo();
        y.undo();
        y.begin(3, 1, 0, 1, 0);
        due("6 is less than 7: a", y.steps(1), 1);
        due("man(1, 4)", y.man(1, 4), 1);
        y.begin(3, 0, 1, 1, 0);
        y.steps(1);
        due("LOT 10 is 0: a", y.man(0, 4), 0);
    }

    private static void make() {
        promise = 12;
        SchoolLosing x = games();
        due("make(0), no GAME", x.make(0), -2);
        due("make(9), no GAME", x.make(9), -2);
        x.begin(6, 0, 1, 1, 0);
        due("make(2)", x.make(2), NONE);
        due("make(-1)", x.make(-1), NONE);
        due("count(8)", x.count(8), 1);
        due("make(0)", x.make(0), 5);
        due("game(5)", x.game(5), 1);
        due("make(2)", x.make(2), 3);
        due("game(0)", x.game(0), -2);
        due("count(5)", x.count(5), 2);
        due("count(6)", x.count(6), 1);
        due("man(0, 6)", x.man(0, 6), 1);
        due("make(0), over", x.make(0), -2);
        // the skill of who moves, the eye of who looks, what was seen so far of who moves
        SchoolLosing y = Texts.school("end a - 1; turn s 0 a 1; turn t 1 s 1; turn u 0 t 1; man m 3 4; man n 5 6;"
            + "sees = if seen < 1 then eye * 10 + skill - 62 else 1 - seen;");
        y.begin(3, 0, 1, 0, 0);
        due("make(0)", y.make(0), 2);
        due("eye 6, skill 3: 1", y.game(5), 1);
        due("make(0)", y.make(0), 1);
        due("eye 4, skill 5: -17", y.game(6), 0);
        due("make(0)", y.make(0), 0);
        due("seen already: 0, but lost and failed", y.man(0, 6), 1);
        due("man(1, 6)", y.man(1, 6), 0);
        // SIDE 1's MOVE is looked at by SIDE 0's MAN, whatever the AIMS and numbers are
        SchoolLosing z = Texts.school("end a 1; turn s 1 a 1; turn t 1 s 1; man m 0 3; man n 0 5; man o 0 7; sees = eye - 5;");
        for (int aim = 0; aim < 3; aim++) {
            for (int man = 0; man < 3; man++) {
                z.begin(2, man, man == 0 ? 1 : 0, aim, 2 - aim);
                z.make(0);
                due("eye of " + man, z.game(6), man == 2 ? 1 : 0);
                due("game(5)", z.game(5), 0);
            }
        }
    }

    private static void learn() {
        promise = 13;
        SchoolLosing x = Texts.school(GAMES + "learns = hours - had * 3 + which + skill;");
        due("no such MAN", x.learn(4, 0), NONE);
        due("no such MAN", x.learn(-1, 0), NONE);
        due("no such LESSON", x.learn(0, 3), NONE);
        due("no such LESSON", x.learn(0, -1), NONE);
        due("lb needs la", x.learn(2, 1), -2);
        due("count(8)", x.count(8), 0);
        due("la: 10 - 0 + 0 + 5", x.learn(2, 0), 15);
        due("man(2, 0)", x.man(2, 0), 6);
        due("man(2, 2)", x.man(2, 2), 1);
        due("man(2, 3)", x.man(2, 3), 15);
        due("la again", x.learn(2, 0), -2);
        due("lb: 20 - 3 + 1 + 6", x.learn(2, 1), 24);
        due("lc: 5 - 6 + 2 + 7", x.learn(2, 2), 8);
        due("man(2, 0)", x.man(2, 0), 8);
        due("man(2, 2)", x.man(2, 2), 7);
        due("man(2, 3)", x.man(2, 3), 47);
        due("lb of another MAN", x.learn(3, 1), -2);
        due("la of ann, who stays at 10", x.learn(0, 0), 20);
        due("man(0, 0)", x.man(0, 0), 10);
        due("count(8)", x.count(8), 4);
        SchoolLosing y = Texts.school("man m 0 0; lesson a 50; lesson b 60; lesson c 1; learns = hours * 2 - which * 61;");
        due("held to 99", y.learn(0, 0), 99);
        due("60 * 2 - 61", y.learn(0, 1), 59);
        due("held to 0", y.learn(0, 2), 0);
        due("man(0, 3)", y.man(0, 3), 158);
        SchoolLosing z = Texts.school("man m 0 0; lesson a 50;");
        due("hours, if LEARNS is not told", z.learn(0, 0), 50);
    }

    private static void undo() {
        promise = 14;
        SchoolLosing x = games();
        due("undo() of nothing", x.undo(), false);
        x.learn(2, 0);
        x.begin(6, 0, 1, 1, 0);
        x.steps(0);
        x.steps(1);
        x.make(2);
        x.make(0);
        due("count(8)", x.count(8), 4);
        due("undo() of make", x.undo(), true);
        due("game(0)", x.game(0), 5);
        due("game(5)", x.game(5), 1);
        due("game(6)", x.game(6), 0);
        due("man(0, 4)", x.man(0, 4), 0);
        due("man(0, 5)", x.man(0, 5), 0);
        due("man(0, 6)", x.man(0, 6), 0);
        due("man(0, 7)", x.man(0, 7), 0);
        due("count(5)", x.count(5), 1);
        due("count(6)", x.count(6), 0);
        due("undo() of steps", x.undo(), true);
        due("game(0)", x.game(0), 6);
        due("game(5)", x.game(5), 0);
        due("count(5)", x.count(5), 0);
        due("undo() of begin", x.undo(), true);
        due("game(0)", x.game(0), -2);
        due("man(2, 3)", x.man(2, 3), 10);
        due("undo() of learn", x.undo(), true);
        due("man(2, 3)", x.man(2, 3), 0);
        due("man(2, 2)", x.man(2, 2), 0);
        due("undo() of nothing", x.undo(), false);
        x.begin(4, 0, 1, 0, 0);
        for (int i = 0; i < 40; i++) {
            x.begin(5 + i % 2, 0, 1, 0, 0);
        }
        due("count(8)", x.count(8), 40);
        for (int i = 0; i < 39; i++) {
            due("undo()", x.undo(), true);
            due("game(0)", x.game(0), 5 + i % 2);
        }
        due("undo() of the 40th", x.undo(), true);
        due("game(0)", x.game(0), 4);
        due("undo() of the 41st", x.undo(), false);
        due("game(0)", x.game(0), 4);
    }

    private static void want() {
        SchoolLosing x = games();
        // {POSITION, AIM, other AIM, margin, MOVE}
        int[][] want = {{4, 0, 0, 3, 0}, {4, 1, 0, -1, 1}, {4, 2, 0, -1, 1}, {5, 0, 0, -5, 2}, {5, 0, 1, 3, 0},
            {5, 0, 2, 0, 1}, {5, 1, 0, -5, 2}, {5, 1, 1, 0, 1}, {5, 1, 2, 0, 1}, {5, 2, 2, 0, 1}, {6, 0, 0, -1, 1},
            {6, 1, 0, -5, 0}, {6, 0, 1, 3, 0}, {6, 1, 1, -1, 1}, {6, 2, 0, -1, 1}, {6, 2, 1, -1, 1}, {6, 0, 2, 0, 0},
            {0, 0, 0, 3, -2}, {3, 2, 1, -5, -2}};
        for (int[] w : want) {
            String of = "(" + w[0] + ", " + w[1] + ", " + w[2] + ")";
            promise = 15;
            due("want" + of, x.want(w[0], w[1], w[2]), w[3]);
            promise = 16;
            due("wants" + of, x.wants(w[0], w[1], w[2]), w[4]);
        }
        int[][] no = {{7, 0, 0}, {-1, 0, 0}, {6, 3, 0}, {6, 0, 3}, {6, -1, 0}, {6, 0, -1}, {0, 3, 0}};
        for (int[] n : no) {
            promise = 15;
            due("want, no such ones", x.want(n[0], n[1], n[2]), -100);
            promise = 16;
            due("wants, no such ones", x.wants(n[0], n[1], n[2]), NONE);
        }
        promise = 16;
        SchoolLosing y = Texts.school("end a 0; end b - 2; end c - 1; end d 1; turn s 0 a 0 b 0; turn t 0 b 0 a 0; "
            + "turn u 1 d 0 c 0; turn v 1 a 0 a 0 a 0; turn w 1 b 0 d 0;");
        due("0 and -2 are as near to -1: the first", y.wants(4, 2, 0), 0);
        due("-2 and 0 likewise", y.wants(5, 2, 0), 0);
        due("SIDE 1's own -1 is 1", y.wants(6, 0, 2), 0);
        due("SIDE 1's own 2 is farther off than -1", y.wants(8, 0, 2), 1);
        for (int aim = 0; aim < 3; aim++) {
            due("alike ones: the first", y.wants(7, 0, aim), 0);
        }
    }

    private static void surely() {
        promise = 17;
        SchoolLosing x = games();
        due("surely(6, 0, 1)", x.surely(6, 0, 1, 0, NONE), 1);
        due("surely(5, 0, 1)", x.surely(5, 0, 1, 0, NONE), 0);
        due("surely(6, 0, 5)", x.surely(6, 0, 5, 0, NONE), 0);
        due("surely(5, 1, 0)", x.surely(5, 1, 0, 0, NONE), 1);
        due("surely(5, 1, 3): SIDE 0 can take l", x.surely(5, 1, 3, 0, NONE), 0);
        due("an END", x.surely(3, 0, 5, 0, NONE), 1);
        due("an END, the other SIDE", x.surely(3, 1, 5, 0, NONE), 0);
        due("an END, SIDE 1's own -3", x.surely(0, 1, 3, 0, NONE), 1);
        due("man is not looked at", x.surely(6, 0, 1, 99, NONE), 1);
        due("l shows 4, seen by 5", x.surely(4, 0, 1, 0, 1), 0);
        due("not seen by 0", x.surely(4, 0, 1, 0, 2), 1);
        due("l from r shows 0", x.surely(6, 0, 1, 0, 1), 1);
        due("what the other one shows does not matter", x.surely(4, 1, 3, 1, 3), 0);
        due("k 9", x.surely(6, 0, 9, 0, NONE), 0);
        due("k 9", Texts.school("end e 9;").surely(0, 1, 9, 0, NONE), 1);
        due("k 10", x.surely(6, 0, 10, 0, NONE), NONE);
        due("k -1", x.surely(6, 0, -1, 0, NONE), NONE);
        due("side 2", x.surely(6, 2, 1, 0, NONE), NONE);
        due("side -1", x.surely(6, -1, 1, 0, NONE), NONE);
        due("position 7", x.surely(7, 0, 1, 0, NONE), NONE);
        due("position -1", x.surely(-1, 0, 1, 0, NONE), NONE);
        due("eye 4", x.surely(6, 0, 1, 0, 4), NONE);
        due("eye -2", x.surely(6, 0, 1, 0, -2), NONE);
        due("man 4", x.surely(6, 0, 1, 4, 1), NONE);
        due("man -1", x.surely(6, 0, 1, -1, 1), NONE);
        promise = 18;
        due("loses(6, 0)", x.loses(6, 0, 0, NONE), 2);
        due("loses(5, 1)", x.loses(5, 1, 0, NONE), 1);
        due("loses(4, 0)", x.loses(4, 0, 77, NONE), 2);
        due("loses(4, 0) unseen by 5", x.loses(4, 0, 0, 1), 0);
        due("loses(4, 1)", x.loses(4, 1, 0, NONE), 0);
        due("loses(0, 1)", x.loses(0, 1, 0, NONE), 8);
        due("loses(2, 0)", x.loses(2, 0, 0, NONE), 1);
        due("loses(0, 0)", x.loses(0, 0, 0, NONE), 0);
        due("position 7", x.loses(7, 0, 0, NONE), NONE);
        due("side 2", x.loses(6, 2, 0, NONE), NONE);
        due("eye 4", x.loses(6, 0, 0, 4), NONE);
        due("man 4", x.loses(6, 0, 4, 0), NONE);
        // the skill is that of who plays it, now; the eye is the other one's; nothing is seen so far
        SchoolLosing y = Texts.school("end a - 9; end b - 1; turn t 0 a 0 b 3; turn u 1 t 9 t 9; lesson l 1;"
            + "man m 2 7; man n 5 4; sees = shows + eye * 10 - skill - 40 + seen * 99;");
        due("m plays it, n looks: a 0 + 40 - 2 - 40", y.loses(3, 0, 0, 1), 1 << 9);
        y.learn(0, 0);
        due("m has 3 now: b 3 + 40 - 3 - 40", y.loses(3, 0, 0, 1), 1 << 9 | 1 << 1);
        due("n plays it, m looks", y.loses(3, 0, 1, 0), 0);
        due("one and the same MAN", y.loses(3, 0, 1, 1), 1 << 9 | 1 << 1);
    }

    private static void seen() {
        promise = 19;
        SchoolLosing x = games();
        due("4 + 5 - 7", x.seen(4, 1, 0, 1, 0), 1);
        due("1 + 5 - 7", x.seen(4, 0, 0, 1, 0), 0);
        due("2 + 5 - 7", x.seen(5, 1, 0, 1, 0), 0);
        due("3 + 5 - 7", x.seen(6, 0, 0, 1, 9), 1);
        due("the same MAN", x.seen(6, 0, 1, 1, 0), 1);
        due("so 10", x.seen(6, 0, 0, 1, 10), NONE);
        due("so -1", x.seen(6, 0, 0, 1, -1), NONE);
        due("move 2", x.seen(6, 2, 0, 1, 0), NONE);
        due("an END", x.seen(0, 0, 0, 1, 0), NONE);
        due("position 7", x.seen(7, 0, 0, 1, 0), NONE);
        due("man 4", x.seen(6, 0, 4, 1, 0), NONE);
        due("eye 4", x.seen(6, 0, 0, 4, 0), NONE);
        due("eye -1", x.seen(6, 0, 0, -1, 0), NONE);
        SchoolLosing y = Texts.school("end a 1; turn t 0 a 4; man m 3 7; man n 9 2; lesson l 1;"
            + "sees = shows * 1000 + eye * 100 + skill * 10 + seen - 4239;");
        due("4000 + 200 + 30 + 9 - 4239", y.seen(1, 0, 0, 1, 9), 0);
        y.learn(0, 0);
        due("4000 + 200 + 40 + 0 - 4239", y.seen(1, 0, 0, 1, 0), 1);
    }

    private static void cup() {
        promise = 20;
        SchoolLosing x = games();
        due("nobody has lost", x.cup(false), -2);
        due("nobody was failed", x.cup(true), -2);
        x.begin(4, 3, 2, 0, 0);
        x.make(1);
        due("dan lost", x.cup(false), 3);
        due("unseen by cid", x.cup(true), -2);
        x.begin(4, 2, 1, 0, 0);
        x.make(1);
        due("cid too: the first", x.cup(false), 2);
        due("seen by bob", x.cup(true), 2);
        x.begin(4, 3, 1, 0, 0);
        x.make(1);
        due("dan twice", x.cup(false), 3);
        due("both failed once: the first", x.cup(true), 2);
        x.undo();
        due("undone", x.cup(false), 2);
        due("there are no MEN", new SchoolLosing().cup(false), NONE);
    }

    private static void likely() {
        promise = 21;
        SchoolLosing x = games();
        dueFraction("cid at p, wanting w: 3", x.likely(4, 2, 1, 0, 3, false), x.likely(4, 2, 1, 0, 3, true), 3, 4);
        dueFraction("-1", x.likely(4, 2, 1, 0, -1, false), x.likely(4, 2, 1, 0, -1, true), 1, 4);
        dueFraction("0", x.likely(4, 2, 1, 0, 0, false), x.likely(4, 2, 1, 0, 0, true), 0, 1);
        dueFraction("wanting l: 3", x.likely(4, 2, 1, 10, 3, false), x.likely(4, 2, 1, 10, 3, true), 1, 4);
        dueFraction("cid as SIDE 1 at q", x.likely(5, 0, 2, 0, -5, false), x.likely(5, 0, 2, 0, -5, true), 2, 3);
        dueFraction("wanting to lose", x.likely(5, 0, 2, 1, 3, false), x.likely(5, 0, 2, 1, 3, true), 2, 3);
        dueFraction("one MAN on both SIDES", x.likely(6, 3, 3, 0, -1, false), x.likely(6, 3, 3, 0, -1, true), 7, 12);
        dueFraction("an END", x.likely(3, 0, 0, 22, -5, false), x.likely(3, 0, 0, 22, -5, true), 1, 1);
        x.learn(2, 0);
        dueFraction("with a SKILL of 6", x.likely(4, 2, 1, 0, 3, false), x.likely(4, 2, 1, 0, 3, true), 4, 5);
        int[][] no = {{7, 0, 1, 0, 0}, {-1, 0, 1, 0, 0}, {6, 4, 1, 0, 0}, {6, -1, 1, 0, 0}, {6, 0, 4, 0, 0},
            {6, 0, -1, 0, 0}, {6, 0, 1, 3, 0}, {6, 0, 1, 30, 0}, {6, 0, 1, -1, 0}, {6, 0, 1, -10, 0},
            {6, 0, 1, 0, 10}, {6, 0, 1, 0, -10}};
        for (int i = 0; i < no.length; i++) {
            int[] n = no[i];
            promise = 21;
            due("likely, no such ones, " + i, x.likely(n[0], n[1], n[2], n[3], n[4], true), NONE);
            promise = 22;
            if (i < 10) {
                due("most, no such ones, " + i, x.most(n[0], n[1], n[2], n[3]), -100);
            }
        }
        promise = 21;
        SchoolLosing y = Texts.school("end a 9; end b - 9; end c 0; turn t 0 a 0 b 0 c 0; turn u 1 t 0 b 0 c 0; "
            + "turn v 0 u 0 u 0 c 0; turn w 1 v 0 v 0 v 0; turn x 0 w 0 w 0 w 0; man m 1 0; man n 0 0; man o 7 0;");
        dueFraction("4/10 of 3/10", y.likely(4, 0, 0, 0, 9, false), y.likely(4, 0, 0, 0, 9, true), 3, 25);
        dueFraction("4/10, 3/10 of 3/10", y.likely(4, 0, 0, 0, -9, false), y.likely(4, 0, 0, 0, -9, true), 49, 100);
        dueFraction("3/10, 3/10 of 3/10", y.likely(4, 0, 0, 0, 0, false), y.likely(4, 0, 0, 0, 0, true), 39, 100);
        dueFraction("five deep", y.likely(7, 1, 1, 0, 9, false), y.likely(7, 1, 1, 0, 9, true), 2, 27);
        promise = 22;
        due("most", y.most(4, 0, 0, 0), -9);
        due("all alike: the least", y.most(3, 1, 1, 0), -9);
        due("of an END", y.most(0, 1, 1, 0), 9);
        due("o wants 9", y.most(3, 2, 1, 0), 9);
        due("o wants -9", y.most(3, 2, 1, 10), -9);
        due("o wants 0, which is nearest to -1", y.most(3, 2, 1, 20), 0);
        due("n slips, whatever he wants", y.most(3, 1, 2, 10), -9);
    }

    private static void order() {
        promise = 23;
        SchoolLosing x = Texts.school("lesson la 10; lesson lb 20 la; lesson lc 5; man m 9 0; learns = hours - had * 3;");
        int[] want = {26, 0, 2, 1};
        for (int i = 0; i < 4; i++) {
            due("order(" + (i - 1) + ")", x.order(i - 1), want[i]);
        }
        due("order(3)", x.order(3), NONE);
        due("order(-2)", x.order(-2), NONE);
        x.learn(0, 2);
        due("as one who had none", x.order(NONE), 26);
        SchoolLosing y = Texts.school("lesson a 1; lesson b 2; lesson c 3 a; lesson d 4; lesson e 5 c b; lesson f 6;"
            + "man m 9 0; learns = skill * 50 + which * (5 - had);");
        // the greater numbers want to be late, but for what they need: 0 + 4 + 6 + 6 + 4 + 0
        int[] up = {20, 0, 1, 2, 3, 4, 5};
        for (int i = 0; i < 7; i++) {
            due("order(" + (i - 1) + ")", y.order(i - 1), up[i]);
        }
        SchoolLosing z = Texts.school("lesson a 1; lesson b 2; lesson c 3 a; lesson d 4; lesson e 5 c b; lesson f 6;"
            + "learns = which * had;");
        // the greater ones want to be early: f 0, d 3, a 0, c 6, b 4, e 20; f d b a c e is alike, and later
        int[] down = {33, 5, 3, 0, 2, 1, 4};
        for (int i = 0; i < 7; i++) {
            due("order(" + (i - 1) + ")", z.order(i - 1), down[i]);
        }
        SchoolLosing held = Texts.school("lesson a 9; lesson b 9; learns = if had < 1 then 5000 * which - 100 else 70;");
        due("held to 0 .. 99: a 0, b 70", held.order(NONE), 70);
        due("order(0)", held.order(0), 0);
        due("no LESSONS", new SchoolLosing().order(0), NONE);
    }

    private static void courts() {
        promise = 24;
        String men = "man a 10 2; man b 10 5; man c 5 0;";
        SchoolLosing x = Texts.school(men + "court k 3; court l 7; suits = skill + eye - pride;");
        due("courts(NONE)", x.courts(NONE), 17);
        due("courts(0), alike: the first", x.courts(0), 0);
        due("courts(1)", x.courts(1), 1);
        due("courts(2)", x.courts(2), NONE);
        due("courts(-2)", x.courts(-2), NONE);
        SchoolLosing few = Texts.school("man a 1 1; court k 1; court l 1;");
        due("more COURTS than MEN", few.courts(NONE), -2);
        due("more COURTS than MEN", few.courts(1), -2);
        due("looked at first", few.courts(2), NONE);
        due("looked at first", few.courts(-2), NONE);
        SchoolLosing none = Texts.school(men);
        due("no COURTS", none.courts(NONE), 0);
        due("no COURTS", none.courts(0), NONE);
        SchoolLosing y = Texts.school("man a 1 1; man b 2 2; man c 3 3; court k 1; court l 2; court m 3; lesson z 1;"
            + "suits = if pride < eye + 1 then skill * 10 - pride else pride - 100;");
        // c to m (27), b to l (18), a to k (9)
        int[] want = {54, 0, 1, 2};
        for (int i = 0; i < 4; i++) {
            due("courts(" + (i - 1) + ")", y.courts(i - 1), want[i]);
        }
        y.learn(0, 0);
        due("with the SKILL now", y.courts(NONE), 64);
        SchoolLosing skill = Texts.school("man a 1 1; man b 4 1; man c 4 1; court k 9;");
        due("skill, if SUITS is not told", skill.courts(NONE), 4);
        due("courts(0)", skill.courts(0), 1);
        SchoolLosing held = Texts.school("man a 1 0; man b 4 0; court k 9; court l 0; suits = skill * 60 - 100 + pride;");
        // b 149 or 140 held to 99, a -31 or -40 held to 0
        due("held to 0 .. 99", held.courts(NONE), 99);
        due("courts(0)", held.courts(0), 0);
    }

    private static void dice() {
        String text = "die a 1 1 1 1 1 1; die b 0 0 0 5 5 5; die c 2 2 2 2 2 2;";
        SchoolLosing x = Texts.school(text);
        promise = 25;
        int[][] want = {{0, 0, 0, 1}, {0, 1, 1, 2}, {0, 2, 1, 1}, {1, 0, 1, 2}, {1, 1, 1, 4}, {2, 0, 0, 1}};
        for (int[] w : want) {
            dueFraction("less " + w[0] + " " + w[1], x.less(w[0], w[1], false), x.less(w[0], w[1], true), w[2], w[3]);
        }
        due("no such DIE", x.less(3, 0, false), NONE);
        due("no such DIE", x.less(0, 3, false), NONE);
        due("no such DIE", x.less(-1, 0, true), NONE);
        due("no such DIE", x.less(0, -1, true), NONE);
        promise = 26;
        due("reply(0)", x.reply(0), 1);
        due("reply(1), alike: the first", x.reply(1), 0);
        due("reply(2)", x.reply(2), 0);
        due("reply(3)", x.reply(3), NONE);
        due("reply(-1)", x.reply(-1), NONE);
        promise = 27;
        due("rests(NONE)", x.rests(NONE), 2);
        due("rests(0)", x.rests(0), 1);
        due("rests(1)", x.rests(1), 10);
        due("rests(2)", x.rests(2), NONE);
        due("rests(-2)", x.rests(-2), NONE);
        SchoolLosing same = Texts.school("die a 3 3 3 3 3 3; die b 3 3 3 3 3 3;");
        due("all alike", same.rests(NONE), 4);
        int[] pairs = {0, 1, 10, 11};
        for (int i = 0; i < 4; i++) {
            due("rests(" + i + ")", same.rests(i), pairs[i]);
        }
        // each shows less than the next one by 5 of 9, round and round
        SchoolLosing round = Texts.school("die a 2 2 4 4 9 9; die b 3 3 5 5 7 7; die c 1 1 6 6 8 8;");
        promise = 25;
        dueFraction("a under b", round.less(0, 1, false), round.less(0, 1, true), 5, 9);
        dueFraction("b under c", round.less(1, 2, false), round.less(1, 2, true), 5, 9);
        dueFraction("c under a", round.less(2, 0, false), round.less(2, 0, true), 5, 9);
        promise = 26;
        due("reply to a", round.reply(0), 2);
        due("reply to b", round.reply(1), 0);
        due("reply to c", round.reply(2), 1);
        promise = 27;
        due("no RESTS", round.rests(NONE), 0);
        due("rests(0)", round.rests(0), NONE);
        SchoolLosing low = Texts.school("die a 5 5 5 5 5 5; die b 0 0 0 0 0 1;");
        promise = 26;
        due("the same may be", low.reply(1), 1);
        promise = 27;
        due("one RESTS", low.rests(NONE), 1);
        due("rests(0)", low.rests(0), 11);
    }

    private static void fine() {
        promise = 28;
        due("margin", new SchoolLosing().fine(), 1);
        due("7", Texts.school("pays = 7;").fine(), 0);
        due("margin * margin", Texts.school("pays = margin * margin;").fine(), 17);
        due("10 less", Texts.school("pays = 10 - margin * 3;").fine(), 3);
        due("one of 99 more", Texts.school("pays = if margin < 5 then 0 else 99;").fine(), 99);
        due("one of 100 more", Texts.school("pays = if margin < 5 then 0 else 100;").fine(), -2);
        due("9 told as 8", Texts.school("pays = if margin < 9 then 5 else 0;").fine(), 5);
        due("0 told as 1", Texts.school("pays = if 0 < margin then 6 else 0;").fine(), 6);
        due("8 told as 9", Texts.school("pays = if 8 < margin then 7 else 0;").fine(), 7);
        due("1 told as 0", Texts.school("pays = if margin < 1 then 8 else 0;").fine(), 8);
        due("a half is not enough", Texts.school("pays = margin / 2;").fine(), 1);
        due("-27 and 50", Texts.school("pays = if 8 < margin then 50 else 45 - margin * 9;").fine(), 77);
        due("more than 32 bits apart", Texts.school(
            "pays = if margin < 1 then 9999 * 9999 * 21 else 0 - 9999 * 9999 * 21;").fine(), -2);
        promise = 29;
        SchoolLosing x = Texts.school("pays = margin * margin - 5;");
        due("pays(0)", x.pays(0), -5);
        due("pays(9)", x.pays(9), 76);
        due("pays(10)", x.pays(10), -100000);
        due("pays(-1)", x.pays(-1), -100000);
    }

    private static int law(String law, int margin) {
        return Texts.school("pays = " + law + ";").pays(margin);
    }

    private static void laws() {
        promise = 29;
        due("1 + 2 * 3", law("1 + 2 * 3", 0), 7);
        due("(1 + 2) * 3", law("(1 + 2) * 3", 0), 9);
        due("9 - 3 - 2", law("9 - 3 - 2", 0), 4);
        due("9 - (3 - 2)", law("9 - (3 - 2)", 0), 8);
        due("9 / 2 * 2", law("9 / 2 * 2", 0), 8);
        due("9 * 2 / 4 * 2 - 1 * 3 + 1", law("9 * 2 / 4 * 2 - 1 * 3 + 1", 0), 6);
        due("towards 0", law("(0 - 7) / 2", 0), -3);
        due("wraps", law("9999 * 9999 * 9999", 0), (int) (9999L * 9999 * 9999));
        due("least by -1", law("(0 - 8192 * 4096 * 64) / (0 - 1)", 0), Integer.MIN_VALUE);
        due("by 0", law("5 + 1 / margin", 0), 0);
        due("not by 0", law("5 + 1 / margin", 1), 6);
        due("by 0, times 0", law("7 + 0 * (1 / 0)", 0), 0);
        due("by 0, not looked at", law("if margin < 1 then 4 else 1 / 0", 0), 4);
        due("by 0, looked at", law("if margin < 1 then 4 else 1 / 0", 1), 0);
        due("by 0 in an if", law("if 1 / margin < 1 then 4 else 6", 0), 0);
        due("by 0 behind an if that holds", law("if 0 < 1 then 4 else if 1 / 0 < 1 then 5 else 6", 0), 4);
        due("by 0 in what is not then", law("if 1 < 0 then 1 / 0 else 6", 0), 6);
        String four = "if margin < 1 then 10 else if margin < 2 then 20 else if 8 < margin then 30 else "
            + "if margin < 5 then 40 else 50";
        due("the first if that holds", law(four, 0), 10);
        due("the second one", law(four, 1), 20);
        due("the third one", law(four, 9), 30);
        due("the fourth one", law(four, 4), 40);
        due("the last one", law(four, 5), 50);
        due("others are 0", law("shows + eye + skill + hours + had + which + pride + seen + 2", 3), 2);
        due("the last LAW", Texts.school("pays = 1; pays = 2; sees = 3;").pays(0), 2);
        String deepest = "1+1*(2+1*(3+1*(4+1*(5+1*(6+1*(7+1*8))))))";
        due("six within one another", law(deepest, 0), 36);
        due("likewise in an if", law("if " + deepest + " < " + deepest + " + 1 then " + deepest + " else 0", 0), 36);
        due("400 TOKENS", law("1+".repeat(198) + "1", 0), 199);
        due("400 TOKENS, two LAWS", Texts.school("sees=" + "1+".repeat(96) + "1;pays=" + "2+".repeat(98) + "2;").pays(0), 198);
        promise = 13;
        SchoolLosing x = Texts.school("man m 3 9; lesson l 7; learns = 50 + shows + eye + pride + margin + seen;");
        due("others are 0", x.learn(0, 0), 50);
        promise = 24;
        SchoolLosing y = Texts.school("man m 3 9; court c 7; suits = 50 + shows + hours + had + which + margin + seen;");
        due("others are 0", y.courts(NONE), 50);
        promise = 19;
        SchoolLosing z = Texts.school("end e 7; turn t 0 e 5; man m 3 9; sees = hours + had + which + pride + margin;");
        due("others are 0", z.seen(1, 0, 0, 0, 9), 0);
    }

    private static void tell() {
        promise = 30;
        SchoolLosing x = games();
        int[][] no = {{4, 4, 0}, {-1, 4, 0}, {0, 7, 0}, {0, -1, 0}, {0, 0, 0}, {0, 4, 2}, {0, 4, -1}};
        for (int[] n : no) {
            due("no such ones", x.tell(n[0], n[1], n[2]), NONE);
        }
        due("count(9)", x.count(9), 0);
        for (int i = 0; i < 5; i++) {
            due("tell", x.tell(i % 4, 5, i % 3), i);
        }
        due("a 6th", x.tell(0, 4, 0), NONE);
        due("count(9)", x.count(9), 5);
        due("count(8)", x.count(8), 0);
        promise = 31;
        due("forget()", x.forget(), 5);
        due("count(9)", x.count(9), 0);
        due("forget()", x.forget(), 0);
        promise = 30;
        due("tell", x.tell(0, 4, 0), 0);
    }

    private static void meant() {
        promise = 32;
        SchoolLosing x = games();
        dueFraction("nothing known", x.meant(2, 0, false), x.meant(2, 0, true), 1, 2);
        due("k 1", x.meant(2, 1, false), NONE);
        x.tell(2, 4, 1);
        x.tell(0, 4, 0);
        x.tell(0, 4, 1);
        x.tell(2, 4, 0);
        x.tell(2, 5, 0);
        dueFraction("k 0", x.meant(2, 0, false), x.meant(2, 0, true), 1, 2);
        dueFraction("cid took l, 3/4 by 1/4", x.meant(2, 1, false), x.meant(2, 1, true), 3, 4);
        dueFraction("two of ann's more", x.meant(2, 3, false), x.meant(2, 3, true), 3, 4);
        dueFraction("then w", x.meant(2, 4, false), x.meant(2, 4, true), 1, 2);
        dueFraction("as SIDE 1 p, 2/3 by 1/6", x.meant(2, 5, false), x.meant(2, 5, true), 4, 5);
        dueFraction("ann: none of hers", x.meant(0, 1, false), x.meant(0, 1, true), 1, 2);
        dueFraction("ann took w", x.meant(0, 2, false), x.meant(0, 2, true), 0, 1);
        due("ann took both", x.meant(0, 3, false), -2);
        due("ann took both", x.meant(0, 3, true), -2);
        dueFraction("bob", x.meant(1, 5, false), x.meant(1, 5, true), 1, 2);
        due("k 6", x.meant(0, 6, false), NONE);
        due("k -1", x.meant(0, -1, false), NONE);
        due("man 4", x.meant(4, 0, false), NONE);
        due("man -1", x.meant(-1, 0, true), NONE);
        x.learn(2, 0);
        dueFraction("with a SKILL of 6", x.meant(2, 1, false), x.meant(2, 1, true), 4, 5);
        x.forget();
        x.tell(0, 4, 1);
        dueFraction("ann took l", x.meant(0, 1, false), x.meant(0, 1, true), 1, 1);
        x.forget();
        for (int i = 0; i < 5; i++) {
            x.tell(2, 4, 1);
        }
        dueFraction("five times l", x.meant(2, 5, false), x.meant(2, 5, true), 1024, 1025);
        x.undo();
        dueFraction("with a SKILL of 5 again", x.meant(2, 5, false), x.meant(2, 5, true), 243, 244);
        x.forget();
        // at r he who wants to lose goes on to q, since he would lose on; who wants to win takes l
        x.tell(2, 6, 0);
        dueFraction("cid took q", x.meant(2, 1, false), x.meant(2, 1, true), 3, 4);
    }

    private static void set() {
        promise = 33;
        due("q: -5 and 3", games().set(), 5);
        due("no TURN", Texts.school("end e 1;").set(), -2);
        due("no MOVES that differ", Texts.school("end e 1; end f 2; turn t 0 e 1; turn u 1 e 1 e 2;").set(), -2);
        due("alike: the first", Texts.school("end e 1; end f 2; turn t 0 e 1 f 1; turn u 1 e 1 f 2;").set(), 2);
        due("the farthest", Texts.school("end e 1; end f 2; end g 4; turn t 0 e 1 f 1; turn u 1 f 1 g 2;").set(), 4);
        // at v SIDE 0 gets -1 or -2, as SIDE 1 wants to win at t and u: 1 apart; were it 2 or 9, it would be 7
        due("the other one wins", Texts.school("end a - 1; end b 2; end c - 2; end d 9; turn t 1 a 1 b 1; turn u 1 c 1 d 1; "
            + "turn v 0 t 1 u 1; end e 0; turn w 0 e 1 d 1;").set(), 5);
        due("a SIDE 0 that wins by its own later MOVE", Texts.school("end a 0; end b 5; end c - 4; turn t 0 a 1 b 1; "
            + "turn u 0 t 1 c 1;").set(), 4);
    }

    private static void holdAndRestore() {
        promise = 34;
        SchoolLosing x = games();
        due("slot 3", x.hold(3), false);
        due("slot -1", x.hold(-1), false);
        due("hold(2)", x.hold(2), true);
        x.learn(2, 0);
        x.begin(6, 0, 1, 1, 0);
        x.steps(1);
        x.tell(0, 4, 0);
        due("hold(0)", x.hold(0), true);
        due("count(8)", x.count(8), 3);
        due("count(10)", x.count(10), 2);
        x.steps(5);
        x.tell(0, 4, 1);
        x.feed(0x20202020, 0x20202020, 0x20202020, 0x20202020, 0x20202020);
        promise = 35;
        due("slot 3", x.restore(3), false);
        due("slot -1", x.restore(-1), false);
        due("nothing is held", x.restore(1), false);
        due("count(8)", x.count(8), 4);
        due("restore(0)", x.restore(0), true);
        due("count(8)", x.count(8), 0);
        due("count(9)", x.count(9), 2);
        due("count(7)", x.count(7), 20);
        due("count(10)", x.count(10), 2);
        due("undo()", x.undo(), false);
        due("game(0)", x.game(0), 5);
        due("game(5)", x.game(5), 1);
        due("man(2, 2)", x.man(2, 2), 1);
        due("man(0, 7)", x.man(0, 7), 0);
        due("count(5)", x.count(5), 1);
        due("count(6)", x.count(6), 0);
        x.steps(5);
        due("man(0, 7)", x.man(0, 7), 1);
        due("it stays there", x.restore(0), true);
        due("man(0, 7)", x.man(0, 7), 0);
        due("game(0)", x.game(0), 5);
        due("restore(2)", x.restore(2), true);
        due("game(0)", x.game(0), -2);
        due("count(5)", x.count(5), 0);
        due("man(2, 2)", x.man(2, 2), 0);
        promise = 34;
        due("hold(0) again", x.hold(0), true);
        due("count(10)", x.count(10), 2);
        x.restore(0);
        due("game(0)", x.game(0), -2);
    }

    private static void count() {
        promise = 36;
        SchoolLosing x = Texts.school(GAMES + "court ka 1; court kb 2; die d 1 2 3 4 5 6;");
        int[] want = {7, 4, 3, 2, 1, 0, 0, 0, 0, 0, 0};
        for (int i = 0; i < want.length; i++) {
            due("count(" + i + ")", x.count(i), want[i]);
        }
        due("count(11)", x.count(11), NONE);
        due("count(-1)", x.count(-1), NONE);
        x.begin(6, 0, 1, 1, 0);
        x.steps(5);
        x.begin(6, 0, 1, 1, 0);
        x.tell(0, 4, 0);
        x.hold(1);
        x.feed(1, 2, 3, 4, 5);
        int[] then = {7, 4, 3, 2, 1, 2, 1, 20, 3, 1, 1};
        for (int i = 0; i < then.length; i++) {
            due("count(" + i + ")", x.count(i), then[i]);
        }
    }
}
