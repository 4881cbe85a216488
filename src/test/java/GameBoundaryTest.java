import java.util.Arrays;

/** Promises 6 to 22: the boundary cases of games, men and what would be, sentence by sentence of the document. */
public final class GameBoundaryTest {
    private static final int NONE = SchoolLosing.NONE;
    private static final int LEAST = Integer.MIN_VALUE;
    private static final int GREATEST = Integer.MAX_VALUE;

    /* As LAWS tell them: INTS have four digits at most. */
    private static final String LEAST_BY_LAW = "8192*8192*32";
    private static final String GREATEST_BY_LAW = "8192*8192*32-1";

    /** Five deep, all MOVES SIDE 0's, seen by n's EYE of 9 and not by m's of 0. */
    private static final String DEEP = "end a - 9;turn b 0 a 9;turn c 0 b 9;turn d 0 c 9;turn e 0 d 9;turn f 0 e 9;"
        + "man m 10 0;man n 10 9;sees=shows+eye-17;";

    /** TURN 3 has three MOVES, 4 two, 5 one. */
    private static final String MOVES = "end a 9;end b - 9;end c 0;turn t 0 a 0 b 9 c 5;turn u 1 t 1 b 2;turn v 0 u 3;"
        + "man m 10 0;man n 10 9;man o 0 5;";

    private static final Dues DUES = new Dues();

    private GameBoundaryTest() {
    }

    public static void main(String[] args) {
        position();
        move();
        man();
        game();
        begin();
        steps();
        stepsByAims();
        stepsByLot();
        lostAndFailed();
        seenInGames();
        make();
        learn();
        hoursOfLearning();
        undo();
        undoAndRefused();
        want();
        wants();
        surely();
        surelyUnseen();
        loses();
        seen();
        cup();
        likely();
        most();
        lastCall();
        DUES.needs(6, 22);
        DUES.end();
    }

    private static void position() {
        SchoolLosing x = Texts.school(MOVES);
        DUES.by(6, "the SIDE that moves (-2: an END)");
        int[] sides = {-2, -2, -2, 0, 1, 0};
        for (int p = 0; p < 6; p++) {
            DUES.due("position(" + p + ", 0)", x.position(p, 0), sides[p]);
        }
        DUES.by(6, "MARGIN (0 for a TURN; -9 .. 9)");
        int[] margins = {9, -9, 0, 0, 0, 0};
        for (int p = 0; p < 6; p++) {
            DUES.due("position(" + p + ", 1)", x.position(p, 1), margins[p]);
        }
        DUES.by(6, "how many MOVES");
        int[] moves = {0, 0, 0, 3, 2, 1};
        for (int p = 0; p < 6; p++) {
            DUES.due("position(" + p + ", 2)", x.position(p, 2), moves[p]);
        }
        DUES.by(6, "how DEEP");
        SchoolLosing y = Texts.school(DEEP);
        for (int p = 0; p < 6; p++) {
            DUES.due("position(" + p + ", 3)", y.position(p, 3), p);
        }
        DUES.by(6, "-100 for others");
        for (int p = 0; p < 6; p++) {
            for (int what : new int[] {-1, 4, LEAST, GREATEST}) {
                DUES.due("position(" + p + ", " + what + ")", x.position(p, what), -100);
            }
        }
        for (int what = 0; what < 4; what++) {
            for (int p : new int[] {-1, 6, 14, LEAST, GREATEST}) {
                DUES.due("position(" + p + ", " + what + ")", x.position(p, what), -100);
            }
        }
    }

    private static void move() {
        SchoolLosing x = Texts.school(MOVES);
        DUES.by(7, "Of a MOVE: to which POSITION (shows: how much it SHOWS)");
        int[][] to = {{}, {}, {}, {0, 1, 2}, {3, 1}, {4}};
        int[][] shows = {{}, {}, {}, {0, 9, 5}, {1, 2}, {3}};
        for (int p = 0; p < 6; p++) {
            for (int m = 0; m < to[p].length; m++) {
                DUES.due("move(" + p + ", " + m + ", false)", x.move(p, m, false), to[p][m]);
                DUES.due("move(" + p + ", " + m + ", true)", x.move(p, m, true), shows[p][m]);
            }
        }
        SchoolLosing last = Texts.school("end a 1;end b 1;end c 1;end d 1;end e 1;end f 1;end g 1;end h 1;end i 1;"
            + "end j 1;end k 1;end l 1;end m 1;turn t 0 m 9;");
        DUES.due("the 14th to the 13th", last.move(13, 0, false), 12);
        DUES.by(7, "NONE: no such ones");
        for (int p = 0; p < 6; p++) {
            for (int m : new int[] {-1, to[p].length, 3, LEAST, GREATEST}) {
                DUES.due("move(" + p + ", " + m + ", false)", x.move(p, m, false), NONE);
                DUES.due("move(" + p + ", " + m + ", true)", x.move(p, m, true), NONE);
            }
        }
        for (int p : new int[] {-1, 6, 14, LEAST, GREATEST}) {
            DUES.due("move(" + p + ", 0, false)", x.move(p, 0, false), NONE);
        }
    }

    private static void man() {
        DUES.by(8, "SKILL now: as told, and 1 more for each LESSON that he had, 10 at most");
        StringBuilder text = new StringBuilder("man a 0 0;man b 3 9;man c 4 5;man d 5 5;man e 9 5;man f 10 5;");
        for (char name = 'p'; name < 'v'; name++) {
            text.append("lesson ").append(name).append(" 99;");
        }
        SchoolLosing x = Texts.school(text.toString());
        int[] skills = {0, 3, 4, 5, 9, 10};
        for (int had = 0; had <= 6; had++) {
            for (int man = 0; man < 6; man++) {
                DUES.due("man(" + man + ", 0) with " + had, x.man(man, 0), Math.min(10, skills[man] + had));
                x.learn(man, had);
            }
        }
        DUES.by(8, "EYE, LESSONS had (bits), HOURS learnt");
        DUES.due("man(0, 1)", x.man(0, 1), 0);
        DUES.due("man(1, 1)", x.man(1, 1), 9);
        for (int man = 0; man < 6; man++) {
            DUES.due("man(" + man + ", 2)", x.man(man, 2), 63);
            DUES.due("man(" + man + ", 3)", x.man(man, 3), 594);
        }
        SchoolLosing last = Texts.school(text.toString());
        last.learn(0, 5);
        DUES.due("the last LESSON's bit", last.man(0, 2), 32);
        DUES.by(8, "-100000 for others");
        for (int what : new int[] {-1, 8, LEAST, GREATEST}) {
            DUES.due("man(0, " + what + ")", x.man(0, what), -100000);
        }
        for (int what = 0; what < 8; what++) {
            for (int man : new int[] {-1, 6, LEAST, GREATEST}) {
                DUES.due("man(" + man + ", " + what + ")", x.man(man, what), -100000);
            }
        }
        DUES.due("a MAN fewer", Texts.school("man a 0 0;").man(1, 0), -100000);
    }

    private static void game() {
        SchoolLosing x = Texts.school(DEEP);
        DUES.by(9, "-2: no GAME is on");
        for (int what = 0; what < 7; what++) {
            DUES.due("game(" + what + ")", x.game(what), -2);
        }
        DUES.by(9, "NONE for others");
        for (int what : new int[] {-1, 7, LEAST, GREATEST}) {
            DUES.due("game(" + what + "), none is on", x.game(what), NONE);
        }
        x.begin(5, 0, 1, 0, 2);
        for (int what : new int[] {-1, 7, LEAST, GREATEST}) {
            DUES.due("game(" + what + ")", x.game(what), NONE);
        }
        DUES.by(9, "how many of their MOVES were SEEN");
        for (int made = 0; made < 5; made++) {
            int[] want = {5 - made, 0, 1, 0, 2, made, 0};
            for (int what = 0; what < 7; what++) {
                DUES.due("game(" + what + ") behind " + made, x.game(what), want[what]);
            }
            x.make(0);
        }
        DUES.by(9, "-2: no GAME is on");
        for (int what = 0; what < 7; what++) {
            DUES.due("game(" + what + "), over", x.game(what), -2);
        }
    }

    private static void begin() {
        SchoolLosing x = Texts.school(MOVES);
        DUES.by(10, "false, and nothing happens: no such ones, one and the same MAN, an END");
        int[][] refused = {{0, 0, 1, 0, 0}, {2, 0, 1, 0, 0}, {6, 0, 1, 0, 0}, {-1, 0, 1, 0, 0}, {3, 0, 0, 0, 0},
            {3, 2, 2, 0, 0}, {3, 3, 0, 0, 0}, {3, 0, 3, 0, 0}, {3, -1, 0, 0, 0}, {3, 0, -1, 0, 0}, {3, 3, 3, 0, 0},
            {3, 0, 1, 3, 0}, {3, 0, 1, 0, 3}, {3, 0, 1, -1, 0}, {3, 0, 1, 0, -1}};
        for (boolean isOn : new boolean[] {false, true}) {
            String ahead = Texts.picture(x);
            for (int[] r : refused) {
                DUES.due("begin " + Arrays.toString(r), x.begin(r[0], r[1], r[2], r[3], r[4]), false);
            }
            DUES.due("the picture", Texts.picture(x), ahead);
            if (!isOn) {
                x.begin(4, 0, 1, 2, 1);
            }
        }
        DUES.by(10, "A GAME is begun (in place of one that is on): true");
        DUES.due("the first TURN, the last MAN", x.begin(3, 2, 0, 2, 0), true);
        DUES.due("game(0)", x.game(0), 3);
        DUES.due("the last TURN, the last AIM", x.begin(5, 0, 2, 0, 2), true);
        int[] want = {5, 0, 2, 0, 2, 0, 0};
        for (int what = 0; what < 7; what++) {
            DUES.due("game(" + what + ")", x.game(what), want[what]);
        }
        DUES.due("no game is over", x.count(6), 0);
        DUES.due("things that can be undone", x.count(8), 3);
        SchoolLosing y = Texts.school(DEEP);
        y.begin(5, 0, 1, 0, 0);
        y.make(0);
        DUES.due("game(5)", y.game(5), 1);
        y.begin(5, 0, 1, 0, 0);
        DUES.due("nothing SEEN in the new one", y.game(5), 0);
        SchoolLosing z = Texts.school("end a - 1;turn s 0 a 1;turn t 1 s 1;man m 0 0;man n 0 0;sees=1;");
        z.begin(2, 0, 1, 0, 0);
        z.make(0);
        DUES.due("game(6)", z.game(6), 1);
        z.begin(2, 0, 1, 0, 0);
        DUES.due("nothing SEEN of SIDE 1's in the new one", z.game(6), 0);
        y.begin(1, 1, 0, 0, 0);
        y.make(0);
        DUES.due("he was not FAILED by what was SEEN in the other one", y.man(0, 6), 0);
    }

    private static void steps() {
        SchoolLosing x = Texts.school(DEEP);
        DUES.by(11, "-2, and nothing happens: no GAME is on; NONE: no such n");
        String none = Texts.picture(x);
        for (int n = 0; n <= 5; n++) {
            DUES.due("steps(" + n + "), none is on", x.steps(n), -2);
        }
        for (int n : new int[] {-1, 6, LEAST, GREATEST}) {
            DUES.due("steps(" + n + "), none is on", x.steps(n), NONE);
        }
        DUES.due("the picture", Texts.picture(x), none);
        x.begin(5, 0, 1, 0, 0);
        String begun = Texts.picture(x);
        for (int n : new int[] {-1, 6, LEAST, GREATEST}) {
            DUES.due("steps(" + n + ")", x.steps(n), NONE);
        }
        DUES.by(11, "0 is no thing done");
        DUES.due("steps(0)", x.steps(0), 0);
        DUES.due("the picture", Texts.picture(x), begun);
        DUES.by(11, "n STEPS (0 .. 5), or till it is over: how many were done");
        DUES.due("steps(4)", x.steps(4), 4);
        DUES.due("game(0)", x.game(0), 1);
        DUES.due("steps(5) with one left", x.steps(5), 1);
        DUES.due("game(0)", x.game(0), -2);
        DUES.due("count(5)", x.count(5), 5);
        DUES.due("count(8): begin, steps, steps", x.count(8), 3);
        x.begin(5, 0, 1, 0, 0);
        DUES.due("steps(5) with five left", x.steps(5), 5);
        DUES.due("count(6)", x.count(6), 2);
        DUES.due("steps(0), over", x.steps(0), -2);
        for (int n = 1; n <= 5; n++) {
            x.begin(n, 0, 1, 0, 0);
            DUES.due("steps(5) with " + n + " left", x.steps(5), n);
        }
        DUES.due("count(5)", x.count(5), 25);
        DUES.by(11, "n STEPS: a thing done");
        for (int n = 1; n <= 5; n++) {
            SchoolLosing y = Texts.school(DEEP);
            y.begin(5, 0, 1, 0, 0);
            y.steps(n);
            DUES.due("count(8) behind steps(" + n + ")", y.count(8), 2);
            y.undo();
            DUES.due("game(0)", y.game(0), 5);
        }
    }

    /** ENDS 3, 0, -1, -3 at 0 .. 3; TURN 4 is SIDE 1's, 5 SIDE 0's. */
    private static final String AIMS = "end a 3;end b 0;end c - 1;end d - 3;turn t 1 a 0 c 0 b 0;turn u 0 t 0 d 0;"
        + "man m 10 0;man n 10 0;";

    /** By AIMS 00, 01, 02, 10, .. 22 the margins from TURNS 4 and 5. */
    private static final int[][] BY_AIMS = {{-1, -1}, {3, 3}, {0, 0}, {-1, -3}, {3, -3}, {0, -3}, {-1, -1}, {3, -3}, {0, 0}};

    private static void stepsByAims() {
        for (int aims = 0; aims < 9; aims++) {
            int aim = aims / 3;
            int otherAim = aims % 3;
            for (int turn = 4; turn <= 5; turn++) {
                SchoolLosing x = Texts.school(AIMS);
                int want = BY_AIMS[aims][turn - 4];
                DUES.by(11, "takes the MOVE BY WANT");
                x.begin(turn, 0, 1, aim, otherAim);
                x.steps(5);
                DUES.due("AIMS " + aim + otherAim + " at " + turn, x.man(0, 4), want);
                DUES.by(15, "The margin (SIDE 0's) BY WANT");
                DUES.due("AIMS " + aim + otherAim + " at " + turn, x.want(turn, aim, otherAim), want);
                DUES.by(21, "aims: 10 * SIDE 0's + the other one's");
                DUES.due("AIMS " + aim + otherAim + " at " + turn,
                    x.likely(turn, 0, 1, 10 * aim + otherAim, want, false), 1);
                DUES.by(22, "likewise");
                DUES.due("AIMS " + aim + otherAim + " at " + turn, x.most(turn, 0, 1, 10 * aim + otherAim), want);
            }
        }
    }

    /** The MOVE BY WANT if LOT 10 is less than the SKILL: of SKILLS, the one that is as great as LOT 10 slips. */
    private static void stepsByLot() {
        DUES.by(11, "takes the MOVE BY WANT if LOT 10 .. is less than his SKILL; else that of the number LOT");
        String text = "end a 0;end b 1;end c 2;turn t 0 a 1 b 1 c 1;turn u 0 a 1 c 1;turn v 0 b 1;man z 0 0;";
        for (int seed = 0; seed < 60; seed++) {
            int lot = Model.lot(10, seed, 0);
            int slip = Model.lot(3, seed, 1);
            int aim = slip == 0 ? 0 : 1;
            SchoolLosing x = Texts.school(text + "man m " + lot + " 0;man n " + (lot + 1) + " 0;seed " + seed + ";");
            x.begin(3, 1, 0, aim, 0);
            x.steps(1);
            DUES.due("SEED " + seed + ", a SKILL of LOT 10", x.man(1, 4), slip);
            x.undo();
            x.undo();
            x.begin(3, 2, 0, aim, 0);
            x.steps(1);
            DUES.due("SEED " + seed + ", a SKILL of 1 more", x.man(2, 4), aim == 0 ? 2 : 0);
            x.undo();
            x.undo();
            x.begin(4, 0, 1, 0, 0);
            x.steps(1);
            DUES.due("SEED " + seed + ", LOT 2", x.man(0, 4), 2 * Model.lot(2, seed, 1));
            x.begin(5, 0, 1, 0, 0);
            DUES.due("SEED " + seed + ", LOT 1", x.steps(1), 1);
        }
        DUES.by(11, "32 * the steps so far (of all games)");
        SchoolLosing y = Texts.school(text + "man m 0 0;man n 10 0;seed 9999;");
        for (int i = 0; i < 40; i++) {
            int ahead = y.man(1, 4);
            y.begin(3, 1, 0, 0, 0);
            y.steps(1);
            DUES.due("SKILL 0, step " + 2 * i, y.man(1, 4) - ahead, Model.lot(3, 9999, 64 * i + 1));
            int other = y.man(2, 4);
            y.begin(3, 2, 0, 0, 0);
            y.steps(1);
            DUES.due("SKILL 10, step " + (2 * i + 1), y.man(2, 4) - other, 2);
        }
    }

    private static void lostAndFailed() {
        DUES.by(11, "he for whom that is below 0 has LOST it; if he has, and a MOVE of his was SEEN in it, he is FAILED");
        for (int margin = -9; margin <= 9; margin++) {
            for (int seen = 0; seen <= 1; seen++) {
                String sign = margin < 0 ? "- " : "";
                SchoolLosing x = Texts.school("end a " + sign + Math.abs(margin) + ";turn s 0 a 1;turn t 1 s 1;"
                    + "man m 10 0;man n 10 0;sees=" + seen + ";");
                x.begin(2, 0, 1, 0, 0);
                x.steps(5);
                int lost = margin < 0 ? 1 : 0;
                int won = margin > 0 ? 1 : 0;
                int[][] want = {{margin, lost, lost * seen, 1}, {-margin, won, won * seen, 1}};
                for (int man = 0; man < 2; man++) {
                    for (int what = 4; what < 8; what++) {
                        DUES.due("MARGIN " + margin + ", man(" + man + ", " + what + ")", x.man(man, what),
                            want[man][what - 4]);
                    }
                }
            }
        }
    }

    /** SIDE 1, SIDE 0, SIDE 1, SIDE 0, SIDE 1 move; m's EYE is 2, n's 5. */
    private static void seenInGames() {
        String text = "end a - 1;turn b 1 a 0;turn c 0 b 0;turn d 1 c 0;turn e 0 d 0;turn f 1 e 0;man m 3 2;man n 4 5;";
        DUES.by(12, "SEEN: eye: the other one's; skill: of who moves; seen: how many MOVES of his were SEEN");
        String[] laws = {"eye-4", "5-eye", "skill-3", "4-skill", "1-seen", "2-seen", "seen", "if seen<1 then eye-4 else 1"};
        int[][] want = {{2, 0}, {0, 2}, {0, 2}, {2, 0}, {1, 1}, {2, 2}, {0, 0}, {2, 0}};
        int[][] turned = {{0, 2}, {2, 0}, {2, 0}, {0, 2}, {1, 1}, {2, 2}, {0, 0}, {0, 2}};
        for (int i = 0; i < laws.length; i++) {
            SchoolLosing x = Texts.school(text + "sees=" + laws[i] + ";");
            for (int one = 0; one < 2; one++) {
                x.begin(5, one, 1 - one, 0, 1);
                for (int made = 0; made < 4; made++) {
                    x.make(0);
                }
                DUES.due(laws[i] + ", SIDE 0's", x.game(5), one == 0 ? want[i][0] : turned[i][0]);
                DUES.due(laws[i] + ", SIDE 1's", x.game(6), one == 0 ? want[i][1] : turned[i][1]);
            }
        }
    }

    private static void make() {
        SchoolLosing x = Texts.school(MOVES);
        DUES.by(12, "-2, and nothing happens (looked at first): no GAME is on");
        String none = Texts.picture(x);
        for (int move : new int[] {0, 2, 3, -1, LEAST, GREATEST}) {
            DUES.due("make(" + move + "), none is on", x.make(move), -2);
        }
        DUES.due("the picture", Texts.picture(x), none);
        DUES.by(12, "NONE: no such one");
        x.begin(5, 0, 1, 0, 0);
        for (int moves = 1; moves <= 3; moves++) {
            String ahead = Texts.picture(x);
            for (int move : new int[] {-1, moves, 3, LEAST, GREATEST}) {
                DUES.due("make(" + move + ") of " + moves, x.make(move), NONE);
            }
            DUES.due("the picture", Texts.picture(x), ahead);
            x.make(0);
        }
        DUES.by(12, "A MOVE by hand: the POSITION then");
        for (int move = 0; move < 3; move++) {
            x.begin(3, 0, 1, 0, 0);
            DUES.due("make(" + move + ")", x.make(move), move);
            DUES.due("it is over", x.game(0), -2);
        }
        DUES.by(12, "a MOVE is made (a step, too)");
        DUES.due("count(5)", x.count(5), 6);
        DUES.due("count(6)", x.count(6), 4);
        DUES.due("make(0), over", x.make(0), -2);
    }

    private static void learn() {
        DUES.by(13, "-2, and nothing happens: he had it, not those that it NEEDS; NONE: no such ones");
        SchoolLosing x = Texts.school("man m 0 0;man n 0 0;lesson a 1;lesson b 2 a;lesson c 3 a b;");
        String ahead = Texts.picture(x);
        DUES.due("needs a", x.learn(0, 1), -2);
        DUES.due("needs a and b", x.learn(0, 2), -2);
        int[][] none = {{-1, 0}, {2, 0}, {0, -1}, {0, 3}, {LEAST, 0}, {GREATEST, 0}, {0, LEAST}, {0, GREATEST}, {2, 1}};
        for (int[] n : none) {
            DUES.due("learn(" + n[0] + ", " + n[1] + ")", x.learn(n[0], n[1]), NONE);
        }
        DUES.due("the picture", Texts.picture(x), ahead);
        x.learn(0, 0);
        String had = Texts.picture(x);
        DUES.due("he had it", x.learn(0, 0), -2);
        DUES.due("one of two that it NEEDS", x.learn(0, 2), -2);
        DUES.due("another MAN had it", x.learn(1, 1), -2);
        DUES.due("the picture", Texts.picture(x), had);
        DUES.by(13, "LEARNT: HOURS of it");
        DUES.due("learn(0, 1)", x.learn(0, 1), 2);
        DUES.due("learn(0, 2)", x.learn(0, 2), 3);
        DUES.due("all of them", x.man(0, 2), 7);
        for (int lesson = 0; lesson < 3; lesson++) {
            DUES.due("he had them all", x.learn(0, lesson), -2);
        }
        x.undo();
        DUES.due("undone", x.learn(0, 2), 3);
    }

    private static void hoursOfLearning() {
        DUES.by(13, "held to 0 .. 99");
        String[] laws = {"0-1", "0", "1", "98", "99", "100", "9999", LEAST_BY_LAW, GREATEST_BY_LAW, "1/0"};
        int[] want = {0, 0, 1, 98, 99, 99, 99, 0, 99, 0};
        for (int i = 0; i < laws.length; i++) {
            SchoolLosing x = Texts.school("man m 0 0;lesson a 1;learns=" + laws[i] + ";");
            DUES.due(laws[i], x.learn(0, 0), want[i]);
            DUES.due(laws[i], x.man(0, 3), want[i]);
            DUES.due("he has it all the same", x.man(0, 2), 1);
        }
        DUES.by(13, "had: how many he had; which: its number; skill");
        SchoolLosing x = Texts.school("man m 9 0;lesson a 1;lesson b 1;lesson c 1;lesson d 1;lesson e 1;lesson f 1;"
            + "learns=if which<3 then skill*9+had else which*10+had;");
        int[] hours = {81, 91, 92, 33, 44, 55};
        for (int lesson = 0; lesson < 6; lesson++) {
            DUES.due("learn(0, " + lesson + ")", x.learn(0, lesson), hours[lesson]);
        }
    }

    private static SchoolLosing afterThings(int things) {
        SchoolLosing x = Texts.school(DEEP);
        for (int i = 0; i < things; i++) {
            if (i % 2 == 0) {
                x.begin(1, 0, 1, 0, 0);
            } else {
                x.make(0);
            }
        }
        return x;
    }

    private static void undo() {
        DUES.by(14, "true; false: there is none (the last 40 can be)");
        for (int things : new int[] {0, 1, 2, 39, 40, 41, 79, 80, 81, 121}) {
            SchoolLosing x = afterThings(things);
            int can = Math.min(40, things);
            DUES.due("count(8) of " + things, x.count(8), can);
            for (int i = 0; i < can; i++) {
                DUES.due("undo() of " + things, x.undo(), true);
                DUES.due("count(8)", x.count(8), can - 1 - i);
                DUES.due("count(5)", x.count(5), (things - 1 - i) / 2);
            }
            String left = Texts.picture(x);
            DUES.due("one more undo() of " + things, x.undo(), false);
            DUES.due("the picture", Texts.picture(x), left);
            DUES.due("what goes on behind " + (things - can), Texts.goesOn(x), Texts.goesOn(afterThings(things - can)));
        }
        SchoolLosing x = afterThings(40);
        for (int i = 0; i < 10; i++) {
            x.undo();
        }
        for (int i = 0; i < 11; i++) {
            x.begin(2, 0, 1, 0, 0);
        }
        DUES.due("count(8): 30 and 11", x.count(8), 40);
        for (int i = 0; i < 40; i++) {
            DUES.due("undo()", x.undo(), true);
        }
        DUES.due("undo()", x.undo(), false);
        DUES.due("the first thing stays done", x.game(0), 1);
    }

    private static void undoAndRefused() {
        DUES.by(14, "The last thing done (begin, steps, make, learn) is undone");
        SchoolLosing x = Texts.school(DEEP + "lesson l 7;");
        String nothing = Texts.picture(x);
        x.learn(0, 0);
        String learnt = Texts.picture(x);
        x.begin(5, 0, 1, 0, 0);
        String begun = Texts.picture(x);
        x.make(0);
        String made = Texts.picture(x);
        x.steps(5);
        // none of these is a thing done
        x.steps(1);
        x.make(0);
        x.begin(0, 0, 1, 0, 0);
        x.learn(0, 0);
        x.steps(0);
        x.back(0);
        x.forget();
        x.restore(1);
        for (String picture : new String[] {made, begun, learnt, nothing}) {
            DUES.due("undo()", x.undo(), true);
            DUES.due("the picture", Texts.picture(x), picture);
        }
        DUES.due("undo()", x.undo(), false);
        DUES.by(14, "The last thing done (begin, steps, make, learn): what is TOLD and held is none of them");
        x.learn(0, 0);
        x.tell(0, 1, 0);
        x.hold(0);
        DUES.due("undo()", x.undo(), true);
        DUES.due("count(9)", x.count(9), 1);
        DUES.due("count(10)", x.count(10), 1);
        DUES.due("undo()", x.undo(), false);
    }

    private static void want() {
        SchoolLosing x = Texts.school(MOVES);
        DUES.by(15, "The margin (SIDE 0's) BY WANT from a POSITION");
        for (int aims = 0; aims < 9; aims++) {
            DUES.due("of an END", x.want(0, aims / 3, aims % 3), 9);
            DUES.due("of an END", x.want(1, aims / 3, aims % 3), -9);
            DUES.due("of an END", x.want(2, aims / 3, aims % 3), 0);
        }
        DUES.due("the greatest", x.want(3, 0, 0), 9);
        DUES.due("the least", x.want(3, 1, 0), -9);
        DUES.due("the nearest to -1", x.want(3, 2, 0), 0);
        DUES.due("SIDE 1 to win", x.want(4, 0, 0), -9);
        DUES.due("SIDE 1 to lose", x.want(4, 0, 1), 9);
        DUES.due("SIDE 1 nearest to its own -1: 9 is -9, 8 off; -9 is 9, 10 off", x.want(4, 0, 2), 9);
        DUES.by(15, "-100: no such ones");
        int[][] none = {{-1, 0, 0}, {6, 0, 0}, {14, 0, 0}, {3, -1, 0}, {3, 3, 0}, {3, 0, -1}, {3, 0, 3}, {0, 3, 0},
            {LEAST, 0, 0}, {GREATEST, 0, 0}, {3, LEAST, 0}, {3, GREATEST, 0}, {3, 0, LEAST}, {3, 0, GREATEST}};
        for (int[] n : none) {
            DUES.by(15, "-100: no such ones");
            DUES.due("want" + Arrays.toString(n), x.want(n[0], n[1], n[2]), -100);
            DUES.by(16, "NONE: no such ones");
            DUES.due("wants" + Arrays.toString(n), x.wants(n[0], n[1], n[2]), NONE);
        }
    }

    private static int wantsOf(int side, int aim, String... margins) {
        StringBuilder text = new StringBuilder();
        StringBuilder turn = new StringBuilder("turn t " + side);
        for (int i = 0; i < margins.length; i++) {
            text.append("end ").append((char) ('a' + i)).append(' ').append(margins[i]).append(';');
            turn.append(' ').append((char) ('a' + i)).append(" 0");
        }
        SchoolLosing x = Texts.school(text.toString() + turn + ";");
        return x.wants(margins.length, side == 0 ? aim : 0, side == 0 ? 0 : aim);
    }

    private static void wants() {
        DUES.by(16, "The MOVE BY WANT; -2: an END");
        SchoolLosing x = Texts.school(MOVES);
        for (int aims = 0; aims < 9; aims++) {
            for (int end = 0; end < 3; end++) {
                DUES.due("wants(" + end + ")", x.wants(end, aims / 3, aims % 3), -2);
            }
            DUES.due("the only MOVE", x.wants(5, aims / 3, aims % 3), 0);
        }
        DUES.by(16, "of alike ones the first");
        for (int side = 0; side < 2; side++) {
            for (int aim = 0; aim < 3; aim++) {
                DUES.due("all alike", wantsOf(side, aim, "- 3", "- 3", "- 3"), 0);
            }
            int toWin = side == 0 ? 0 : 1;
            DUES.due("the last two are alike", wantsOf(side, toWin, "1", "2", "2"), 1);
            DUES.due("the first and the last", wantsOf(side, toWin, "2", "1", "2"), 0);
            DUES.due("the last two are alike", wantsOf(side, 1 - toWin, "2", "1", "1"), 1);
        }
        DUES.by(16, "2 to lose by one: as near as can be to -1");
        DUES.due("0 and -2", wantsOf(0, 2, "0", "- 2"), 0);
        DUES.due("-2 and 0", wantsOf(0, 2, "- 2", "0"), 0);
        DUES.due("0, -2 and -1", wantsOf(0, 2, "0", "- 2", "- 1"), 2);
        DUES.due("9 and -9", wantsOf(0, 2, "9", "- 9"), 1);
        DUES.due("7 and -9: 8 off each", wantsOf(0, 2, "7", "- 9"), 0);
        DUES.due("8 and -9", wantsOf(0, 2, "8", "- 9"), 1);
        DUES.due("SIDE 1: 0 and 2", wantsOf(1, 2, "0", "2"), 0);
        DUES.due("SIDE 1: -1 and 1", wantsOf(1, 2, "- 1", "1"), 1);
        DUES.due("SIDE 1: -7 and 9: 8 off each", wantsOf(1, 2, "- 7", "9"), 0);
        DUES.due("SIDE 1: -8 and 9", wantsOf(1, 2, "- 8", "9"), 1);
    }

    /** ENDS 0 z, 1 n, 2 o, 3 p; TURNS 4 (SIDE 0: z, n, o), 5 (SIDE 1: z, n), 6 (SIDE 0: p), 7 (SIDE 1: o, o). */
    private static final String SURE = "end z 0;end n - 9;end o - 1;end p 9;turn t 0 z 5 n 6 o 4;turn u 1 z 0 n 0;"
        + "turn v 0 p 0;turn w 1 o 9 o 9;man m 3 0;man k 5 9;sees=shows-5;";

    private static void surely() {
        SchoolLosing x = Texts.school(SURE);
        DUES.by(17, "a SIDE can end with its own margin just -k (0 .. 9), whatever the other one does");
        for (int k = 0; k <= 9; k++) {
            DUES.due("SIDE 0 chooses 0, -9, -1; k " + k, x.surely(4, 0, k, 0, NONE), k == 0 || k == 1 || k == 9 ? 1 : 0);
            DUES.due("SIDE 0, the other one chooses; k " + k, x.surely(5, 0, k, 0, NONE), 0);
            DUES.due("SIDE 1 chooses 0; k " + k, x.surely(5, 1, k, 0, NONE), k == 0 ? 1 : 0);
            DUES.due("SIDE 0 wins by 9; k " + k, x.surely(6, 0, k, 0, NONE), 0);
            DUES.due("SIDE 1 loses by 9; k " + k, x.surely(6, 1, k, 0, NONE), k == 9 ? 1 : 0);
            DUES.due("both MOVES lose by 1; k " + k, x.surely(7, 0, k, 0, NONE), k == 1 ? 1 : 0);
            DUES.due("an END; k " + k, x.surely(0, 0, k, 0, NONE), k == 0 ? 1 : 0);
            DUES.due("an END; k " + k, x.surely(1, 0, k, 0, NONE), k == 9 ? 1 : 0);
            DUES.due("an END; k " + k, x.surely(1, 1, k, 0, NONE), 0);
        }
        DUES.by(17, "NONE: no such ones (k 0 .. 9)");
        for (int k : new int[] {-1, 10, 31, 32, 33, 64, LEAST, GREATEST}) {
            DUES.due("k " + k, x.surely(4, 0, k, 0, NONE), NONE);
            DUES.due("an END; k " + k, x.surely(1, 0, k, 0, NONE), NONE);
        }
        DUES.by(17, "man looked at only with an eye");
        for (int man : new int[] {-1, 2, LEAST, GREATEST}) {
            DUES.due("man " + man + " without an eye", x.surely(4, 0, 9, man, NONE), 1);
            DUES.due("man " + man + " with an eye", x.surely(4, 0, 9, man, 0), NONE);
        }
    }

    private static void surelyUnseen() {
        SchoolLosing x = Texts.school(SURE);
        DUES.by(17, "UNSEEN by that MAN, as the MAN plays it");
        for (int eye = 0; eye < 2; eye++) {
            DUES.due("SEES tells 0: not SEEN", x.surely(4, 0, 0, 1 - eye, eye), 1);
            DUES.due("SEES tells 1: SEEN", x.surely(4, 0, 9, 1 - eye, eye), 0);
            DUES.due("SEES tells -1: not SEEN", x.surely(4, 0, 1, 1 - eye, eye), 1);
            DUES.due("what the other one makes may be SEEN", x.surely(7, 0, 1, 1 - eye, eye), 1);
            DUES.due("his own may not", x.surely(7, 1, 1, 1 - eye, eye), 0);
            DUES.due("an END has no MOVES", x.surely(1, 0, 9, 1 - eye, eye), 1);
        }
        SchoolLosing zero = Texts.school("end a 0;turn t 1 a 0 a 9 a 0;");
        DUES.due("0 whatever the other one does", zero.surely(1, 0, 0, 0, NONE), 1);
        SchoolLosing all = Texts.school("end a - 1;turn t 0 a 0 a 9;man m 0 0;sees=1;");
        DUES.due("all are SEEN", all.surely(1, 0, 1, 0, 0), 0);
        DUES.due("but without an eye", all.surely(1, 0, 1, 0, NONE), 1);
        DUES.by(17, "seen 0 for each MOVE");
        SchoolLosing y = Texts.school(DEEP + "sees=seen;");
        DUES.due("five of his own", y.surely(5, 0, 9, 0, 1), 1);
        SchoolLosing z = Texts.school(DEEP + "sees=1-seen;");
        DUES.due("five of his own", z.surely(5, 0, 9, 0, 1), 0);
        SchoolLosing less = Texts.school(DEEP + "sees=0-seen;");
        DUES.due("five of his own", less.surely(5, 0, 9, 0, 1), 1);
        DUES.by(17, "as another MAN with his SKILL plays it");
        SchoolLosing skill = Texts.school(SURE + "sees=5-skill;lesson a 1;lesson b 1;");
        DUES.due("a SKILL of 3", skill.surely(4, 0, 9, 0, 1), 0);
        DUES.due("a SKILL of 5", skill.surely(4, 0, 9, 1, 0), 1);
        skill.learn(0, 0);
        DUES.due("a SKILL of 4", skill.surely(4, 0, 9, 0, 1), 0);
        skill.learn(0, 1);
        DUES.due("a SKILL of 5", skill.surely(4, 0, 9, 0, 1), 1);
    }

    private static void loses() {
        SchoolLosing x = Texts.school(SURE);
        DUES.by(18, "All k by which it can SURELY (bits)");
        int[][] want = {{1, 1}, {512, 0}, {2, 0}, {0, 512}, {515, 0}, {0, 1}, {0, 512}, {2, 0}};
        for (int p = 0; p < 8; p++) {
            for (int side = 0; side < 2; side++) {
                DUES.due("loses(" + p + ", " + side + ")", x.loses(p, side, 0, NONE), want[p][side]);
            }
        }
        DUES.by(18, "likewise");
        DUES.due("unseen: not the one that shows 6", x.loses(4, 0, 0, 1), 3);
        DUES.due("unseen: not his own", x.loses(7, 1, 0, 1), 0);
        for (int man : new int[] {-1, 2, LEAST, GREATEST}) {
            DUES.due("man " + man + " without an eye", x.loses(4, 0, man, NONE), 515);
            DUES.due("man " + man + " with an eye", x.loses(4, 0, man, 0), NONE);
        }
        DUES.by(18, "NONE: no such ones");
        int[][] none = {{-1, 0, 0, NONE}, {8, 0, 0, NONE}, {4, -1, 0, NONE}, {4, 2, 0, NONE}, {4, 0, 0, -2},
            {4, 0, 0, 2}, {4, 0, 0, LEAST}, {4, 0, 0, GREATEST}};
        for (int[] n : none) {
            DUES.due("loses" + Arrays.toString(n), x.loses(n[0], n[1], n[2], n[3]), NONE);
        }
        // nothing comes of a MOVE that is not: from 0 to 9, all of them
        SchoolLosing all = Texts.school("end a 0;end b - 1;end c - 2;end d - 3;end e - 4;end f - 5;end g - 6;end h - 7;"
            + "end i - 8;turn t 0 a 0 b 0 c 0;turn u 0 d 0 e 0 f 0;turn v 0 g 0 h 0 i 0;turn w 0 t 0 u 0 v 0;");
        DUES.due("0 .. 8", all.loses(12, 0, 0, NONE), 511);
    }

    private static void seen() {
        DUES.by(19, "SEEN .. if SEES tells more than 0: 1, else 0");
        String[] laws = {"0-1", "0", "1", LEAST_BY_LAW, GREATEST_BY_LAW, "8192*8192*64", "1/0", "0-9999"};
        int[] want = {0, 0, 1, 0, 1, 0, 0, 0};
        for (int i = 0; i < laws.length; i++) {
            SchoolLosing x = Texts.school(DEEP + "sees=" + laws[i] + ";");
            DUES.due(laws[i], x.seen(1, 0, 0, 1, 0), want[i]);
        }
        DUES.by(19, "of whom so many were SEEN (0 .. 9)");
        SchoolLosing x = Texts.school(DEEP + "sees=seen-4;");
        for (int so = 0; so <= 9; so++) {
            DUES.due("so " + so, x.seen(1, 0, 0, 1, so), so > 4 ? 1 : 0);
        }
        DUES.by(19, "NONE: no such ones");
        for (int so : new int[] {-1, 10, LEAST, GREATEST}) {
            DUES.due("so " + so, x.seen(1, 0, 0, 1, so), NONE);
        }
        DUES.due("an END", x.seen(0, 0, 0, 1, 5), NONE);
        DUES.due("move 1 of one", x.seen(1, 1, 0, 1, 5), NONE);
        DUES.due("eye NONE is no MAN", x.seen(1, 0, 0, NONE, 5), NONE);
        DUES.by(19, "Whether a MOVE would be SEEN: shows: the MOVE's");
        SchoolLosing moves = Texts.school(MOVES + "sees=shows-4;");
        for (int move = 0; move < 3; move++) {
            DUES.due("MOVE " + move + " of three", moves.seen(3, move, 0, 1, 0), move == 0 ? 0 : 1);
        }
        DUES.by(19, "made by another one (or the same)");
        SchoolLosing y = Texts.school(DEEP);
        DUES.due("by m, n looks", y.seen(1, 0, 0, 1, 0), 1);
        DUES.due("by n, m looks", y.seen(1, 0, 1, 0, 0), 0);
        DUES.due("by n, who looks", y.seen(1, 0, 1, 1, 0), 1);
        DUES.due("by m, who looks", y.seen(1, 0, 0, 0, 0), 0);
    }

    private static void cup() {
        DUES.by(20, "NONE: there are no MEN");
        DUES.due("cup(false)", Texts.school("end a 1;").cup(false), NONE);
        DUES.due("cup(true)", Texts.school("end a 1;").cup(true), NONE);
        DUES.by(20, "-2: nobody has");
        String text = "end l - 1;end z 0;turn t 0 l 0 z 0 l 9;man m 0 0;man n 0 0;man o 0 0;sees=shows;";
        SchoolLosing x = Texts.school(text);
        DUES.due("no game yet", x.cup(false), -2);
        x.begin(2, 2, 0, 0, 0);
        x.make(1);
        DUES.due("a margin of 0", x.cup(false), -2);
        x.begin(2, 2, 0, 0, 0);
        x.make(0);
        DUES.by(20, "The MAN who has LOST most games, of alike ones the first");
        DUES.due("the last MAN, once", x.cup(false), 2);
        DUES.by(20, "-2: nobody has");
        DUES.due("he was not FAILED", x.cup(true), -2);
        DUES.by(20, "The MAN who has LOST most games, of alike ones the first (failed: who was FAILED most)");
        x.begin(2, 1, 0, 0, 0);
        x.make(2);
        DUES.due("1 and 2 alike", x.cup(false), 1);
        DUES.due("1 was FAILED", x.cup(true), 1);
        x.begin(2, 2, 0, 0, 0);
        x.make(2);
        DUES.due("2 more often", x.cup(false), 2);
        DUES.due("1 and 2 alike", x.cup(true), 1);
        x.begin(2, 0, 1, 0, 0);
        x.make(2);
        DUES.due("all alike", x.cup(true), 0);
        DUES.due("2 more often", x.cup(false), 2);
        for (int i = 0; i < 8; i++) {
            x.undo();
        }
        DUES.due("undone, but for the first", x.cup(true), -2);
        for (int i = 0; i < 2; i++) {
            x.undo();
        }
        DUES.due("all undone", x.cup(false), -2);
        SchoolLosing six = Texts.school(Texts.FULL + "sees=1;");
        DUES.due("six MEN, nobody has", six.cup(false), -2);
        DUES.due("six MEN, nobody was", six.cup(true), -2);
        six.begin(4, 5, 0, 0, 0);
        six.make(1);
        DUES.due("the 6th MAN", six.cup(false), 5);
        DUES.due("the 6th MAN", six.cup(true), 5);
    }

    /** TURNS 2 .. 6, 1 to 5 deep: a slip, and another one, and so on, ends with -9; all else with 9. */
    private static final String SLIPS = "end b 9;end a - 9;turn c 0 b 0 a 0 b 0;turn d 0 b 0 c 0 b 0;turn e 0 b 0 d 0 b 0;"
        + "turn f 0 b 0 e 0 b 0;turn g 0 b 0 f 0 b 0;man m 3 0;man n 0 0;man o 10 0;man p 1 0;";

    private static void likely() {
        SchoolLosing x = Texts.school(SLIPS);
        DUES.by(21, "slips as told (MOVES BY WANT, or each alike likely)");
        DUES.fraction("five slips of SKILL 3", x.likely(6, 0, 1, 0, -9, false), x.likely(6, 0, 1, 0, -9, true), 16807,
            24300000);
        DUES.fraction("all else", x.likely(6, 0, 1, 0, 9, false), x.likely(6, 0, 1, 0, 9, true), 24283193, 24300000);
        DUES.fraction("five slips of SKILL 0", x.likely(6, 1, 0, 0, -9, false), x.likely(6, 1, 0, 0, -9, true), 1, 243);
        SchoolLosing only = Texts.school("end a 9;turn t 0 a 0;turn u 1 t 0;man m 3 0;man n 0 0;");
        DUES.fraction("only one MOVE each", only.likely(2, 0, 1, 0, 9, false), only.likely(2, 0, 1, 0, 9, true), 1, 1);
        DUES.fraction("one slip of SKILL 1", x.likely(2, 3, 0, 0, -9, false), x.likely(2, 3, 0, 0, -9, true), 3, 10);
        DUES.by(21, "as a fraction that cannot be lessened (0 by 1)");
        DUES.fraction("SKILL 10 never slips", x.likely(6, 2, 0, 0, -9, false), x.likely(6, 2, 0, 0, -9, true), 0, 1);
        DUES.fraction("SKILL 10 never slips", x.likely(6, 2, 0, 0, 9, false), x.likely(6, 2, 0, 0, 9, true), 1, 1);
        for (int margin = -8; margin <= 8; margin++) {
            DUES.fraction("no such END", x.likely(6, 0, 1, 0, margin, false), x.likely(6, 0, 1, 0, margin, true), 0, 1);
        }
        DUES.fraction("an END", x.likely(1, 0, 1, 0, -9, false), x.likely(1, 0, 1, 0, -9, true), 1, 1);
        DUES.fraction("an END", x.likely(1, 0, 1, 0, 9, false), x.likely(1, 0, 1, 0, 9, true), 0, 1);
        DUES.by(21, "NONE: no such ones (a MARGIN -9 .. 9");
        for (int margin : new int[] {-10, 10, LEAST, GREATEST}) {
            DUES.due("margin " + margin, x.likely(6, 0, 1, 0, margin, false), NONE);
            DUES.due("margin " + margin, x.likely(6, 0, 1, 0, margin, true), NONE);
        }
        for (int aims : new int[] {-1, 3, 9, 13, 19, 23, 30, 100, LEAST, GREATEST}) {
            DUES.due("aims " + aims, x.likely(6, 0, 1, aims, 9, true), NONE);
        }
        DUES.by(21, "one and the same MAN may be)");
        DUES.fraction("one MAN", x.likely(2, 0, 0, 0, -9, false), x.likely(2, 0, 0, 0, -9, true), 7, 30);
        DUES.by(21, "aims: 10 * SIDE 0's + the other one's");
        DUES.fraction("to lose", x.likely(2, 2, 1, 12, -9, false), x.likely(2, 2, 1, 12, -9, true), 1, 1);
        DUES.fraction("to lose by one", x.likely(2, 2, 1, 22, -9, false), x.likely(2, 2, 1, 22, -9, true), 1, 1);
        DUES.fraction("to win", x.likely(2, 2, 1, 2, 9, false), x.likely(2, 2, 1, 2, 9, true), 1, 1);
    }

    private static void most() {
        SchoolLosing x = Texts.school("end a 9;end b - 9;end c 8;turn t 0 a 0 b 0;turn u 1 a 0 c 0;turn v 0 a 0 c 0 b 0;"
            + "man m 0 0;man n 1 0;man o 10 0;");
        DUES.by(22, "the MARGIN that is likeliest; of alike ones the least");
        DUES.due("9 and -9 alike", x.most(3, 0, 0, 0), -9);
        DUES.due("9 and 8 alike", x.most(4, 0, 0, 0), 8);
        DUES.due("9, 8 and -9 alike", x.most(5, 0, 0, 0), -9);
        DUES.due("9 by a little", x.most(3, 1, 0, 0), 9);
        DUES.due("-9 by a little", x.most(3, 1, 0, 10), -9);
        DUES.due("9 surely", x.most(3, 2, 0, 0), 9);
        DUES.due("SIDE 1 to lose: 9 by a little", x.most(4, 0, 1, 1), 9);
        for (int margin = -9; margin <= 9; margin++) {
            SchoolLosing end = Texts.school("end a " + (margin < 0 ? "- " : "") + Math.abs(margin) + ";man m 0 0;");
            DUES.due("an END of " + margin, end.most(0, 0, 0, 0), margin);
        }
        DUES.due("an END", x.most(0, 0, 0, 22), 9);
        DUES.due("an END", x.most(1, 0, 0, 22), -9);
        DUES.by(22, "-100: no such ones");
        for (int aims : new int[] {-1, 3, 9, 13, 19, 23, 30, 100, LEAST, GREATEST}) {
            DUES.due("aims " + aims, x.most(3, 0, 0, aims), -100);
        }
        DUES.due("position 6", x.most(6, 0, 0, 0), -100);
        DUES.due("one 3", x.most(3, 3, 0, 0), -100);
        DUES.due("other 3", x.most(3, 0, 3, 0), -100);
    }

    /** The 512th call answers as any other. */
    private static void lastCall() {
        DUES.by(8, "An object is used for at most 512 calls after it has been made");
        SchoolLosing x = new SchoolLosing();
        int calls = 0;
        for (int[] f : Texts.feeds(DEEP)) {
            x.feed(f[0], f[1], f[2], f[3], f[4]);
            calls++;
        }
        x.back(Texts.tooMany(DEEP));
        x.read();
        calls += 2;
        int games = 0;
        while (calls + 2 <= 511) {
            x.begin(1, 0, 1, 0, 0);
            x.make(0);
            calls += 2;
            games++;
        }
        for (; calls < 511; calls++) {
            x.steps(0);
        }
        DUES.due("the 512th call", x.man(0, 4), -9 * games);
    }
}
