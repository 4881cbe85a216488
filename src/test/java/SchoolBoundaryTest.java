/** Promises 23 to 36: the boundary cases of lessons, courts, dice, markers, tellings and slots, by sentences. */
public final class SchoolBoundaryTest {
    private static final int NONE = SchoolLosing.NONE;
    private static final int LEAST = Integer.MIN_VALUE;
    private static final int GREATEST = Integer.MAX_VALUE;

    /* As LAWS tell them: INTS have four digits at most. */
    private static final String LEAST_BY_LAW = "8192*8192*32";
    private static final String GREATEST_BY_LAW = "8192*8192*32-1";

    private static final String SIX_LESSONS = "lesson a 1;lesson b 2;lesson c 3;lesson d 4;lesson e 5;lesson f 6;";
    private static final String SIX_MEN = "man m 0 0;man n 1 0;man o 2 0;man p 3 0;man q 4 0;man r 5 0;";
    private static final String FIVE_COURTS = "court a 0;court b 1;court c 2;court d 3;court e 9;";

    /** TURN 2: SIDE 0 gets 9 or -9; TURN 3: SIDE 1 has three MOVES, of which two alike; m slips by 3, n never, o always. */
    private static final String TELLING = "end a 9;end b - 9;turn t 0 a 0 b 0;turn u 1 a 0 b 0 a 0;turn v 0 a 0;"
        + "man m 3 0;man n 10 0;man o 0 0;";

    private static final Dues DUES = new Dues();

    private SchoolBoundaryTest() {
    }

    public static void main(String[] args) {
        order();
        orderOfAlike();
        courts();
        courtsOfAlike();
        less();
        reply();
        rests();
        fine();
        fineByLaws();
        pays();
        laws();
        wrapping();
        tell();
        forget();
        meant();
        meantFractions();
        set();
        hold();
        restore();
        count();
        DUES.needs(23, 36);
        DUES.end();
    }

    private static void order() {
        DUES.by(23, "HOURS (i NONE), else the i-th LESSON");
        SchoolLosing x = Texts.school(SIX_LESSONS);
        DUES.due("order(NONE)", x.order(NONE), 21);
        for (int i = 0; i < 6; i++) {
            DUES.due("order(" + i + ")", x.order(i), i);
        }
        DUES.by(23, "NONE: not so many, i below NONE");
        for (int i : new int[] {6, 7, GREATEST, -2, LEAST}) {
            DUES.due("order(" + i + ")", x.order(i), NONE);
        }
        SchoolLosing one = Texts.school("lesson a 99;");
        DUES.due("order(1) of one", one.order(1), NONE);
        DUES.by(23, "HOURS (i NONE), else the i-th LESSON");
        DUES.due("order(0) of one", one.order(0), 0);
        DUES.due("order(NONE) of one", one.order(NONE), 99);
        DUES.due("order(NONE) of none", Texts.school("man m 0 0;").order(NONE), 0);
        DUES.by(23, "as for learning (held to 0 .. 99)");
        String[] laws = {"0-1", "0", "99", "100", LEAST_BY_LAW, GREATEST_BY_LAW, "1/0"};
        int[] want = {0, 0, 594, 594, 0, 594, 0};
        for (int i = 0; i < laws.length; i++) {
            DUES.due(laws[i], Texts.school(SIX_LESSONS + "learns=" + laws[i] + ";").order(NONE), want[i]);
        }
        DUES.by(23, "as one who had none would learn them (skill 0 all along)");
        SchoolLosing y = Texts.school(SIX_LESSONS + "man m 10 0;learns=skill*9+had;");
        DUES.due("0 + 1 + 2 + 3 + 4 + 5", y.order(NONE), 15);
        y.learn(0, 3);
        DUES.due("whoever had what", y.order(NONE), 15);
        DUES.due("all six are in it", y.order(3), 3);
    }

    private static void dueOrder(SchoolLosing x, int... want) {
        for (int i = 0; i < want.length; i++) {
            DUES.due("order(" + (i - 1) + ")", x.order(i - 1), want[i]);
        }
    }

    private static void orderOfAlike() {
        DUES.by(23, "of alike ones the first by the first LESSON, then the next one");
        dueOrder(Texts.school(SIX_LESSONS + "learns=7;"), 42, 0, 1, 2, 3, 4, 5);
        DUES.by(23, "each comes behind those that it NEEDS");
        dueOrder(Texts.school("lesson a 1;lesson b 1 a;lesson c 1 b;lesson d 1 c;lesson e 1 d;lesson f 1 e;"
            + "learns=which*had;"), 55, 0, 1, 2, 3, 4, 5);
        DUES.by(23, "in least HOURS");
        // the later the dearer, so the greatest numbers come first, but for what they need
        dueOrder(Texts.school(SIX_LESSONS + "learns=which*had;"), 20, 5, 4, 3, 2, 1, 0);
        // a c b is 0 + 2 + 2, b a c 0 + 0 + 4
        dueOrder(Texts.school("lesson a 1;lesson b 1;lesson c 1 a;learns=which*had;"), 4, 0, 2, 1);
        dueOrder(Texts.school("lesson a 5;lesson b 5;learns=hours-had;"), 9, 0, 1);
    }

    private static void courts() {
        DUES.by(24, "-2: more COURTS than MEN");
        for (int men = 0; men <= 6; men++) {
            for (int courts = 0; courts <= 5; courts++) {
                SchoolLosing x = Texts.school(first(SIX_MEN, men) + first(FIVE_COURTS, courts) + "suits=9;");
                DUES.due("courts(NONE) of " + courts + " by " + men, x.courts(NONE), courts > men ? -2 : 9 * courts);
                for (int i = 0; i < courts; i++) {
                    DUES.due("courts(" + i + ") of " + courts + " by " + men, x.courts(i), courts > men ? -2 : i);
                }
                DUES.by(24, "NONE (looked at first): no such COURT, i below NONE");
                for (int i : new int[] {courts, courts + 1, GREATEST, -2, LEAST}) {
                    DUES.due("courts(" + i + ") of " + courts + " by " + men, x.courts(i), NONE);
                }
                DUES.by(24, "-2: more COURTS than MEN");
            }
        }
        DUES.by(24, "SUITS .. held to 0 .. 99");
        String[] laws = {"0-1", "0", "99", "100", LEAST_BY_LAW, GREATEST_BY_LAW, "1/0"};
        int[] want = {0, 0, 495, 495, 0, 495, 0};
        for (int i = 0; i < laws.length; i++) {
            DUES.due(laws[i], Texts.school(SIX_MEN + FIVE_COURTS + "suits=" + laws[i] + ";").courts(NONE), want[i]);
        }
        DUES.by(24, "COURTS: another MAN for each; what LESSONS need has no part in it");
        SchoolLosing both = Texts.school("man m 5 0;man n 4 0;court a 0;lesson l 1;lesson k 1 l;");
        DUES.due("order(1)", both.order(1), 1);
        DUES.due("courts(0)", both.courts(0), 0);
        SchoolLosing other = Texts.school("man m 4 0;man n 5 0;court a 0;lesson l 1;lesson k 1 l;");
        DUES.due("order(1)", other.order(1), 1);
        DUES.due("courts(0)", other.courts(0), 1);
        DUES.due("order(NONE)", other.order(NONE), 2);
        DUES.due("courts(NONE)", other.courts(NONE), 5);
        DUES.by(24, "skill, eye: the MAN's now, pride: the COURT's");
        SchoolLosing x = Texts.school("man m 9 9;court a 9;lesson l 1;lesson k 1;suits=skill*8+eye+pride;");
        DUES.due("9 * 8 + 9 + 9", x.courts(NONE), 90);
        x.learn(0, 0);
        DUES.due("10 * 8 + 9 + 9", x.courts(NONE), 98);
        x.learn(0, 1);
        DUES.due("10 at most", x.courts(NONE), 98);
    }

    private static String first(String tells, int many) {
        int end = 0;
        for (int i = 0; i < many; i++) {
            end = tells.indexOf(';', end) + 1;
        }
        return tells.substring(0, end);
    }

    private static void dueCourts(String text, int... want) {
        SchoolLosing x = Texts.school(text);
        for (int i = 0; i < want.length; i++) {
            DUES.due("courts(" + (i - 1) + ")", x.courts(i - 1), want[i]);
        }
    }

    private static void courtsOfAlike() {
        DUES.by(24, "of alike ones the first by the first COURT's MAN, then the next one's");
        dueCourts(SIX_MEN + FIVE_COURTS + "suits=0;", 0, 0, 1, 2, 3, 4);
        dueCourts(SIX_MEN + FIVE_COURTS, 15, 1, 2, 3, 4, 5);
        dueCourts("man m 5 0;man n 5 0;court a 0;court b 1;", 10, 0, 1);
        DUES.by(24, "another MAN for each, so that what SUITS tells, together, is most");
        // r at e 45, q at d 12, p at c 6, o at b 2: at a all are 0, m is the first
        dueCourts(SIX_MEN + FIVE_COURTS + "suits=skill*pride;", 65, 0, 2, 3, 4, 5);
        dueCourts("man m 1 0;man n 9 0;court a 0;suits=skill*skill;", 81, 1);
        dueCourts("man m 1 9;court a 5;", 1, 0);
    }

    private static void less() {
        DUES.by(25, "as a fraction that cannot be lessened");
        SchoolLosing x = Texts.school("die a 0 0 0 0 0 0;die b 9 9 9 9 9 9;die c 0 1 2 3 4 5;die d 5 5 5 5 5 0;");
        int[][] want = {{0, 0, 0, 1}, {0, 1, 1, 1}, {1, 0, 0, 1}, {1, 1, 0, 1}, {0, 2, 5, 6}, {2, 0, 0, 1}, {2, 2, 5, 12},
            {2, 3, 25, 36}, {3, 2, 5, 36}, {3, 3, 5, 36}, {0, 3, 5, 6}, {3, 1, 1, 1}};
        for (int[] w : want) {
            DUES.fraction("less " + w[0] + " " + w[1], x.less(w[0], w[1], false), x.less(w[0], w[1], true), w[2], w[3]);
        }
        DUES.by(25, "NONE: no such ones");
        int[][] none = {{-1, 0}, {4, 0}, {0, -1}, {0, 4}, {LEAST, 0}, {0, LEAST}, {GREATEST, 0}, {0, GREATEST}};
        for (int[] n : none) {
            DUES.due("less " + n[0] + " " + n[1], x.less(n[0], n[1], false), NONE);
            DUES.due("less " + n[0] + " " + n[1], x.less(n[0], n[1], true), NONE);
        }
        DUES.due("less 0 1 of one", Texts.school("die a 1 1 1 1 1 1;").less(0, 1, true), NONE);
    }

    private static void reply() {
        DUES.by(26, "the DIE that shows LESS than a told one most likely; of alike ones the first");
        SchoolLosing x = Texts.school("die a 9 9 9 9 9 9;die b 5 5 5 5 5 5;die c 1 1 1 1 1 9;die d 1 1 1 1 1 9;");
        DUES.due("reply(0): b surely", x.reply(0), 1);
        DUES.due("reply(1): c and d alike", x.reply(1), 2);
        DUES.due("reply(2): b 1 of 6, c 5 of 36, d likewise", x.reply(2), 1);
        DUES.due("reply(3)", x.reply(3), 1);
        SchoolLosing one = Texts.school("die a 0 0 0 0 0 0;");
        DUES.due("reply(0) of one", one.reply(0), 0);
        SchoolLosing low = Texts.school("die a 9 9 9 9 9 9;die b 0 0 0 0 0 0;");
        DUES.due("nothing is less than 0: the first", low.reply(1), 0);
        DUES.due("the last one", low.reply(0), 1);
        DUES.by(26, "NONE: no such DIE");
        for (int die : new int[] {-1, 4, LEAST, GREATEST}) {
            DUES.due("reply(" + die + ")", x.reply(die), NONE);
        }
        DUES.due("reply(1) of one", one.reply(1), NONE);
    }

    private static void rests() {
        DUES.by(27, "how many (i NONE), else the i-th (10 * the one's + the other one's, the least first)");
        SchoolLosing all = Texts.school("die a 3 3 3 3 3 3;die b 3 3 3 3 3 3;die c 3 3 3 3 3 3;die d 3 3 3 3 3 3;");
        DUES.due("all alike", all.rests(NONE), 16);
        for (int i = 0; i < 16; i++) {
            DUES.due("rests(" + i + ")", all.rests(i), 10 * (i / 4) + i % 4);
        }
        DUES.by(27, "NONE: not so many, i below NONE");
        for (int i : new int[] {16, 17, GREATEST, -2, LEAST}) {
            DUES.due("rests(" + i + ")", all.rests(i), NONE);
        }
        SchoolLosing round = Texts.school("die a 2 2 4 4 9 9;die b 3 3 5 5 7 7;die c 1 1 6 6 8 8;");
        DUES.due("none rests", round.rests(0), NONE);
        DUES.by(27, "how many (i NONE)");
        DUES.due("none rests", round.rests(NONE), 0);
        DUES.by(27, "two DICE (one's, the other one's; the same may be)");
        SchoolLosing one = Texts.school("die a 1 2 3 4 5 6;");
        DUES.due("one DIE", one.rests(NONE), 1);
        DUES.due("one DIE", one.rests(0), 0);
        DUES.due("one DIE", one.rests(1), NONE);
        SchoolLosing last = Texts.school("die a 9 9 9 9 9 9;die b 8 8 8 8 8 8;die c 7 7 7 7 7 7;die d 0 0 0 0 0 1;");
        DUES.due("the last with itself", last.rests(NONE), 1);
        DUES.due("the last with itself", last.rests(0), 33);
        SchoolLosing three = Texts.school("die a 0 0 0 0 0 0;die b 5 5 5 5 5 5;");
        DUES.due("neither LESS than 0: a a, a b, b a", three.rests(NONE), 3);
        int[] pairs = {0, 1, 10};
        for (int i = 0; i < 3; i++) {
            DUES.due("rests(" + i + ")", three.rests(i), pairs[i]);
        }
    }

    private static int fineOf(String law) {
        return Texts.school("pays=" + law + ";").fine();
    }

    private static void fine() {
        DUES.by(28, "the least c (0 .. 99)");
        DUES.due("all alike", fineOf("7"), 0);
        DUES.due("one more for each", fineOf("margin"), 1);
        DUES.due("one less for each", fineOf("0-margin"), 1);
        DUES.due("98 for each", fineOf("margin*98"), 98);
        DUES.due("99 for each", fineOf("margin*99"), 99);
        DUES.due("99 less for each", fineOf("0-margin*99"), 99);
        DUES.by(28, "-2: by none");
        DUES.due("100 for each", fineOf("margin*100"), -2);
        DUES.due("100 less for each", fineOf("0-margin*100"), -2);
        for (int margin = 0; margin <= 9; margin++) {
            String other = "if margin<" + margin + " then 0 else if " + margin + "<margin then 0 else ";
            DUES.by(28, "no marker gains by telling another margin (0 .. 9) than there is");
            DUES.due("99 more at " + margin, fineOf(other + "99"), 99);
            DUES.due("99 less at " + margin, fineOf(other + "0-99"), 99);
            DUES.due("1 more at " + margin, fineOf(other + "1"), 1);
            DUES.by(28, "-2: by none");
            DUES.due("100 more at " + margin, fineOf(other + "100"), -2);
            DUES.due("100 less at " + margin, fineOf(other + "0-100"), -2);
        }
    }

    private static void fineByLaws() {
        DUES.by(28, "less c for each by which it is off, is no more than by the margin that is");
        DUES.due("a part of one counts as one", fineOf("margin/2"), 1);
        DUES.due("891 by nine off", fineOf("if margin<1 then 0 else if 8<margin then 891 else 99*margin"), 99);
        DUES.due("892 by nine off", fineOf("if margin<1 then 0 else if 8<margin then 892 else 99*margin"), -2);
        DUES.due("margin * margin: 81 - 64", fineOf("margin*margin"), 17);
        DUES.by(28, "what PAYS tells: ints of 32 bits");
        DUES.due("the least and the greatest", fineOf("if margin<1 then " + LEAST_BY_LAW + " else " + GREATEST_BY_LAW), -2);
        DUES.due("the greatest and the least", fineOf("if margin<1 then " + GREATEST_BY_LAW + " else " + LEAST_BY_LAW), -2);
        DUES.due("the greatest for all", fineOf(GREATEST_BY_LAW), 0);
        DUES.due("the least for all", fineOf(LEAST_BY_LAW), 0);
        DUES.due("by 0 for all", fineOf("margin/0"), 0);
        DUES.due("by 0 at 0: 0, then 9 and less", fineOf("9/margin"), 9);
    }

    private static void pays() {
        DUES.by(29, "What PAYS tells (0 .. 9)");
        SchoolLosing x = Texts.school("pays=margin*margin-50;");
        for (int margin = 0; margin <= 9; margin++) {
            DUES.due("pays(" + margin + ")", x.pays(margin), margin * margin - 50);
        }
        DUES.by(29, "-100000: no such margin");
        for (int margin : new int[] {-1, -9, 10, LEAST, GREATEST}) {
            DUES.due("pays(" + margin + ")", x.pays(margin), -100000);
            DUES.due("pays(" + margin + ") of a new object", new SchoolLosing().pays(margin), -100000);
        }
    }

    private static void duePays(String law, int want) {
        DUES.due(law, Texts.school("pays=" + law + ";").pays(0), want);
    }

    private static void laws() {
        DUES.by(29, "the E of the first if that holds (one less than the other), else the last one");
        duePays("if 1<2 then 3 else 4", 3);
        duePays("if 2<2 then 3 else 4", 4);
        duePays("if 3<2 then 3 else 4", 4);
        duePays("if 2<1 then 1 else if 1<2 then 2 else 3", 2);
        duePays("if 1<2 then 1 else if 1<2 then 2 else 3", 1);
        for (int holds = 0; holds <= 4; holds++) {
            StringBuilder law = new StringBuilder();
            for (int i = 0; i < 4; i++) {
                law.append("if ").append(i == holds ? 0 : 1).append("<1 then ").append(10 + i).append(" else ");
            }
            duePays(law + "14", 10 + holds);
        }
        DUES.by(29, "a LAW in which something that is looked at is divided by 0 is 0");
        duePays("5/0", 0);
        duePays("0/0", 0);
        duePays("7+5/0", 0);
        duePays("7+0*(5/(3-3))", 0);
        duePays("if 5/0<1 then 2 else 3", 0);
        duePays("if 1<5/0 then 2 else 3", 0);
        duePays("if 1<2 then 5/0 else 3", 0);
        duePays("if 2<1 then 5/0 else 3", 3);
        duePays("if 1<2 then 5 else 3/0", 5);
        duePays("if 2<1 then 5 else 3/0", 0);
        duePays("if 1<2 then 4 else if 5/0<1 then 2 else 3", 4);
        duePays("if 2<1 then 4 else if 5/0<1 then 2 else 3", 0);
        DUES.by(29, "a VAR not told for a LAW is 0 in it");
        duePays("1+shows+eye+skill+hours+had+which+pride+seen", 1);
        duePays("1/shows", 0);
        // each LAW is looked at behind the others, with their VARS
        SchoolLosing x = Texts.school("end e 7;turn t 0 e 5;man m 3 9;lesson l 7;lesson k 7;court c 8;"
            + "sees=hours+had+which+pride+margin;learns=50+shows+eye+pride+margin+seen;"
            + "suits=60+shows+hours+had+which+margin+seen;pays=70+shows+eye+skill+hours+had+which+pride+seen;");
        for (int i = 0; i < 2; i++) {
            DUES.by(29, "a VAR not told for a LAW is 0 in it");
            DUES.due("pays(9)", x.pays(9), 70);
            DUES.by(19, "a VAR not told for a LAW is 0 in it");
            DUES.due("seen", x.seen(1, 0, 0, 0, 9), 0);
            DUES.by(24, "a VAR not told for a LAW is 0 in it");
            DUES.due("courts(NONE)", x.courts(NONE), 60);
            DUES.by(23, "a VAR not told for a LAW is 0 in it");
            DUES.due("order(NONE)", x.order(NONE), 100);
            DUES.by(19, "a VAR not told for a LAW is 0 in it");
            DUES.due("seen", x.seen(1, 0, 0, 0, 9), 0);
            DUES.by(13, "a VAR not told for a LAW is 0 in it");
            x.pays(9);
            x.courts(NONE);
            DUES.due("learn", x.learn(0, i), 50);
        }
        SchoolLosing y = Texts.school("end e 7;turn t 0 e 5;man m 3 9;man n 3 9;court c 8;"
            + "sees=pride;suits=pride+shows*100+seen;");
        y.seen(1, 0, 0, 1, 9);
        DUES.by(19, "a VAR not told for a LAW is 0 in it");
        SchoolLosing z = Texts.school("end e 7;turn t 0 e 5;man m 3 9;sees=0-hours-had-which-pride-margin;");
        DUES.due("seen", z.seen(1, 0, 0, 0, 9), 0);
        DUES.by(24, "a VAR not told for a LAW is 0 in it");
        DUES.due("courts(NONE)", y.courts(NONE), 8);
        DUES.by(29, "PART: UNIT {('*' | '/') UNIT}");
        duePays("9-2*3", 3);
        duePays("9-8/3-1", 6);
    }

    private static void wrapping() {
        DUES.by(29, "ints of 32 bits that wrap");
        duePays(LEAST_BY_LAW, LEAST);
        duePays(GREATEST_BY_LAW, GREATEST);
        duePays(GREATEST_BY_LAW + "+1", LEAST);
        duePays("0-(" + GREATEST_BY_LAW + ")-1", LEAST);
        duePays("0-(" + GREATEST_BY_LAW + ")-2", GREATEST);
        duePays("0-" + LEAST_BY_LAW, LEAST);
        duePays("8192*8192*64", 0);
        duePays("(" + GREATEST_BY_LAW + ")*2", -2);
        duePays("(" + GREATEST_BY_LAW + ")*(" + GREATEST_BY_LAW + ")", 1);
        duePays("if " + LEAST_BY_LAW + "<" + GREATEST_BY_LAW + " then 1 else 2", 1);
        duePays("if " + GREATEST_BY_LAW + "<" + LEAST_BY_LAW + " then 1 else 2", 2);
        DUES.by(29, "/ rounded towards 0");
        duePays("7/2", 3);
        duePays("(0-7)/2", -3);
        duePays("7/(0-2)", -3);
        duePays("(0-7)/(0-2)", 3);
        duePays("1/2", 0);
        duePays("(0-1)/2", 0);
        duePays("(" + LEAST_BY_LAW + ")/(0-1)", LEAST);
        duePays("(" + GREATEST_BY_LAW + ")/(0-1)", -GREATEST);
        duePays("(" + LEAST_BY_LAW + ")/1", LEAST);
    }

    private static void tell() {
        SchoolLosing x = Texts.school(TELLING);
        DUES.by(30, "NONE, and nothing happens: no such ones");
        int[][] none = {{-1, 2, 0}, {3, 2, 0}, {0, -1, 0}, {0, 5, 0}, {0, 0, 0}, {0, 1, 0}, {0, 2, -1}, {0, 2, 2},
            {0, 3, 3}, {0, 4, 1}, {LEAST, 2, 0}, {GREATEST, 2, 0}, {0, LEAST, 0}, {0, GREATEST, 0}, {0, 2, LEAST},
            {0, 2, GREATEST}};
        for (int[] n : none) {
            DUES.due("tell(" + n[0] + ", " + n[1] + ", " + n[2] + ")", x.tell(n[0], n[1], n[2]), NONE);
        }
        DUES.due("count(9)", x.count(9), 0);
        DUES.by(30, "It is TOLD: its number");
        DUES.due("tell", x.tell(0, 2, 0), 0);
        DUES.due("the last MAN", x.tell(2, 2, 1), 1);
        DUES.due("the last TURN", x.tell(0, 4, 0), 2);
        DUES.due("the last MOVE", x.tell(0, 3, 2), 3);
        DUES.due("the same again", x.tell(0, 3, 2), 4);
        DUES.by(30, "NONE, and nothing happens: 5 are there");
        String full = Texts.picture(x);
        DUES.due("a 6th", x.tell(0, 2, 0), NONE);
        DUES.due("a 6th that there is not", x.tell(9, 9, 9), NONE);
        DUES.due("the picture", Texts.picture(x), full);
        // m's first one is 7/20 by 13/20, his others are alike likely by both AIMS
        DUES.fraction("of the five", x.meant(0, 5, false), x.meant(0, 5, true), 7, 20);
        x.forget();
        DUES.by(30, "It is TOLD: its number");
        DUES.due("behind forget()", x.tell(1, 2, 0), 0);
    }

    private static void forget() {
        DUES.by(31, "All that was TOLD is forgotten: how many there were");
        SchoolLosing x = Texts.school(TELLING);
        DUES.due("none", x.forget(), 0);
        for (int many = 1; many <= 6; many++) {
            for (int i = 0; i < many; i++) {
                x.tell(0, 2, 1);
            }
            DUES.due("forget() of " + many, x.forget(), Math.min(5, many));
            DUES.due("count(9)", x.count(9), 0);
            DUES.due("meant(0, 1)", x.meant(0, 1, true), NONE);
            DUES.due("forget() again", x.forget(), 0);
        }
        DUES.due("it is no thing done", x.count(8), 0);
    }

    private static void meant() {
        DUES.by(32, "KNOWN by k: the first k; NONE: no such ones");
        for (int told = 0; told <= 5; told++) {
            SchoolLosing x = Texts.school(TELLING);
            for (int i = 0; i < told; i++) {
                x.tell(2, 2, 0);
            }
            for (int k = 0; k <= told; k++) {
                DUES.fraction("k " + k + " of " + told, x.meant(0, k, false), x.meant(0, k, true), 1, 2);
            }
            for (int k : new int[] {-1, told + 1, told + 2, LEAST, GREATEST}) {
                DUES.due("k " + k + " of " + told, x.meant(0, k, false), NONE);
                DUES.due("k " + k + " of " + told, x.meant(0, k, true), NONE);
            }
            for (int man : new int[] {-1, 3, LEAST, GREATEST}) {
                DUES.due("man " + man, x.meant(man, 0, false), NONE);
            }
        }
        DUES.by(32, "KNOWN by k: the first k, of one MAN");
        SchoolLosing x = Texts.school(TELLING);
        x.tell(0, 2, 1);
        x.tell(1, 2, 0);
        x.tell(0, 2, 0);
        int[][] want = {{1, 2}, {13, 20}, {13, 20}, {1, 2}};
        for (int k = 0; k <= 3; k++) {
            DUES.fraction("m, k " + k, x.meant(0, k, false), x.meant(0, k, true), want[k][0], want[k][1]);
        }
        DUES.fraction("n, k 1: none of his", x.meant(1, 1, false), x.meant(1, 1, true), 1, 2);
        DUES.fraction("n, k 2", x.meant(1, 2, false), x.meant(1, 2, true), 0, 1);
    }

    private static void meantFractions() {
        DUES.by(32, "as a fraction that cannot be lessened");
        SchoolLosing x = Texts.school(TELLING);
        x.tell(1, 2, 1);
        DUES.fraction("surely to lose", x.meant(1, 1, false), x.meant(1, 1, true), 1, 1);
        x.forget();
        x.tell(1, 2, 0);
        DUES.fraction("surely to win", x.meant(1, 1, false), x.meant(1, 1, true), 0, 1);
        DUES.by(32, "-2: neither can be");
        x.tell(1, 2, 1);
        DUES.due("both", x.meant(1, 2, false), -2);
        DUES.due("both", x.meant(1, 2, true), -2);
        x.forget();
        x.tell(1, 3, 2);
        DUES.due("a MOVE by neither AIM", x.meant(1, 1, true), -2);
        x.forget();
        DUES.by(32, "slips as told");
        for (int i = 0; i < 5; i++) {
            x.tell(0, 3, 0);
        }
        // as SIDE 1 who wants to lose he takes MOVE 0 by 3/10 + 7/30, and by 7/30 else: 16 by 7
        DUES.fraction("five times 16 by 7", x.meant(0, 5, false), x.meant(0, 5, true), 1048576, 1065383);
        x.forget();
        for (int i = 0; i < 5; i++) {
            x.tell(2, 3, i % 3);
        }
        DUES.fraction("a SKILL of 0 tells nothing", x.meant(2, 5, false), x.meant(2, 5, true), 1, 2);
        x.forget();
        x.tell(1, 4, 0);
        DUES.fraction("an only MOVE tells nothing", x.meant(1, 1, false), x.meant(1, 1, true), 1, 2);
        x.tell(2, 4, 0);
        DUES.fraction("nor one of SKILL 0", x.meant(2, 2, false), x.meant(2, 2, true), 1, 2);
        DUES.by(32, "the other one wanting to win");
        // at t SIDE 1, who wants to win, takes - 2: so at v one who wants to win takes a, one who wants to lose t
        SchoolLosing y = Texts.school("end a - 1;end b 9;end c - 2;turn t 1 b 0 c 0;turn v 0 t 0 a 0;"
            + "turn w 1 v 0 a 0;man n 10 0;");
        y.tell(0, 4, 0);
        DUES.fraction("he wanted to lose", y.meant(0, 1, false), y.meant(0, 1, true), 1, 1);
        y.forget();
        y.tell(0, 4, 1);
        DUES.fraction("he wanted to win", y.meant(0, 1, false), y.meant(0, 1, true), 0, 1);
        y.forget();
        // at w, as SIDE 1, to win both are alike, to lose v is better: the first MOVE by both AIMS
        y.tell(0, 5, 0);
        DUES.fraction("either", y.meant(0, 1, false), y.meant(0, 1, true), 1, 2);
    }

    private static void set() {
        DUES.by(33, "-2: none");
        DUES.due("no POSITION", new SchoolLosing().set(), -2);
        DUES.due("ENDS alone", Texts.school("end a 9;end b - 9;").set(), -2);
        DUES.due("an only MOVE", Texts.school("end a 9;turn t 0 a 0;").set(), -2);
        DUES.due("all alike", Texts.school("end a 9;end b 9;turn t 0 a 0 b 0 a 9;turn u 1 a 0 b 0;").set(), -2);
        DUES.by(33, "lie farthest apart; of alike ones the first");
        DUES.due("18 apart, the first of two", Texts.school("end a 9;end b - 9;turn t 0 a 0 b 0;turn u 1 b 0 a 0;").set(), 2);
        DUES.due("18 apart behind 17", Texts.school("end a 9;end b - 9;end c 8;turn t 0 c 0 b 0;turn u 1 b 0 a 0;").set(), 4);
        // SIDE 1 at t wants to win: v is - 1 and - 2, 1 apart; t is - 2 and 9, 11 apart
        DUES.due("the other one wanting to win", Texts.school("end a - 1;end b 9;end c - 2;turn t 1 b 0 c 0;"
            + "turn v 0 t 0 a 0;").set(), 3);
        DUES.due("the other one wanting to win: 1 apart, then 2", Texts.school("end a - 1;end b - 2;end c - 2;turn t 1 b 0 c 0;"
            + "turn v 0 t 0 a 0;end d 0;turn w 0 d 0 c 0;").set(), 6);
        DUES.due("1 apart", Texts.school("end a 9;end b 8;turn t 1 a 0 b 0;").set(), 2);
        DUES.due("the 14th", Texts.school("end a 0;end b 1;end c 3;end d 3;end e 3;end f 3;end g 3;end h 3;end i 3;end j 3;"
            + "end k 3;end l 3;turn t 0 a 0 b 0;turn u 0 a 0 c 0;").set(), 13);
    }

    private static SchoolLosing playing() {
        return Texts.school("end a - 1;turn s 0 a 1;turn t 1 s 1;man m 3 3;man n 4 4;lesson l 5;lesson k 6;sees=1;");
    }

    private static void hold() {
        SchoolLosing x = playing();
        DUES.by(34, "false: no such one");
        String ahead = Texts.picture(x);
        for (int slot : new int[] {-1, 3, LEAST, GREATEST}) {
            DUES.due("hold(" + slot + ")", x.hold(slot), false);
        }
        DUES.due("the picture", Texts.picture(x), ahead);
        DUES.by(34, "is held in a SLOT (0 .. 2): true");
        for (int slot = 0; slot < 3; slot++) {
            DUES.due("hold(" + slot + ")", x.hold(slot), true);
            DUES.due("count(10)", x.count(10), slot + 1);
        }
        DUES.due("hold(1) again", x.hold(1), true);
        DUES.due("count(10)", x.count(10), 3);
        DUES.by(34, "All that goes on (not what is TOLD, nor the tape)");
        x.learn(0, 0);
        x.begin(2, 1, 0, 2, 1);
        x.make(0);
        x.hold(1);
        DUES.due("what can be undone is still there", x.count(8), 3);
        String held = Texts.goesOn(x);
        x.steps(5);
        x.learn(1, 0);
        x.tell(0, 1, 0);
        x.feed(0x20202020, 0x20202020, 0x20202020, 0x20202020, 0x20202020);
        x.restore(1);
        DUES.due("what goes on", Texts.goesOn(x), held);
        DUES.due("what is TOLD", x.count(9), 1);
        DUES.due("the tape", x.count(7), 20);
    }

    private static void restore() {
        SchoolLosing x = playing();
        x.learn(0, 0);
        DUES.by(35, "false, and nothing happens: no such one, nothing is held");
        String ahead = Texts.picture(x);
        for (int slot : new int[] {-1, 3, LEAST, GREATEST, 0, 1, 2}) {
            DUES.due("restore(" + slot + ")", x.restore(slot), false);
        }
        DUES.due("the picture", Texts.picture(x), ahead);
        x.hold(2);
        String held = Texts.goesOn(x);
        x.learn(1, 1);
        String learnt = Texts.picture(x);
        for (int slot : new int[] {-1, 3, 0, 1}) {
            DUES.due("restore(" + slot + "), 2 is held", x.restore(slot), false);
        }
        DUES.due("the picture", Texts.picture(x), learnt);
        DUES.by(35, "nothing can be undone then");
        DUES.due("restore(2)", x.restore(2), true);
        DUES.due("what goes on", Texts.goesOn(x), held);
        DUES.due("count(8)", x.count(8), 0);
        DUES.due("undo()", x.undo(), false);
        DUES.due("what goes on", Texts.goesOn(x), held);
        DUES.by(35, "that stays there");
        x.learn(1, 1);
        DUES.due("restore(2) again", x.restore(2), true);
        DUES.due("what goes on", Texts.goesOn(x), held);
        x.learn(1, 1);
        DUES.due("undo() of what came then", x.undo(), true);
        DUES.due("what goes on", Texts.goesOn(x), held);
        DUES.due("undo() of what was ahead", x.undo(), false);
        DUES.by(35, "nothing is held: a new text");
        Texts.read(x, "man m 0 0;");
        DUES.due("restore(2)", x.restore(2), false);
    }

    private static void count() {
        SchoolLosing x = Texts.school(Texts.FULL);
        DUES.by(36, "0 POSITIONS, 1 MEN, 2 LESSONS, 3 COURTS, 4 DICE");
        int[] most = {14, 6, 6, 5, 4};
        for (int what = 0; what < 5; what++) {
            DUES.due("count(" + what + ")", x.count(what), most[what]);
        }
        DUES.by(36, "NONE for others");
        for (int what : new int[] {-1, 11, LEAST, GREATEST}) {
            DUES.due("count(" + what + ")", x.count(what), NONE);
        }
        DUES.by(36, "5 steps so far, 6 games over");
        for (int i = 0; i < 50; i++) {
            x.begin(4, 0, 1, 0, 0);
            x.make(0);
        }
        DUES.due("count(5)", x.count(5), 50);
        DUES.due("count(6)", x.count(6), 50);
        DUES.by(36, "8 things that can be undone");
        DUES.due("count(8)", x.count(8), 40);
        DUES.by(36, "7 bytes on the tape");
        for (int i = 0; i <= 100; i++) {
            x.feed(0x20202020, 0x20202020, 0x20202020, 0x20202020, 0x20202020);
        }
        DUES.due("count(7)", x.count(7), 2000);
        DUES.by(36, "9 TOLD ones");
        for (int i = 0; i <= 5; i++) {
            x.tell(0, 4, 0);
        }
        DUES.due("count(9)", x.count(9), 5);
        DUES.by(36, "10 SLOTS that hold something");
        for (int slot = -1; slot <= 3; slot++) {
            x.hold(slot);
        }
        DUES.due("count(10)", x.count(10), 3);
    }
}
