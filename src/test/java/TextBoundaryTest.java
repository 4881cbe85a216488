/** Promises 1 to 5: the boundary cases of the tape and of texts, sentence by sentence of the document. */
public final class TextBoundaryTest {
    private static final int NONE = SchoolLosing.NONE;
    private static final int SYNTAX = 1;
    private static final int ROOM = 2;
    private static final int TWICE = 3;
    private static final int NAME = 4;
    private static final int WRONG = 5;
    private static final int DEEP = 6;

    /* The words in quotes; the first ones begin a TELL. */
    private static final int TELLS = 11;
    private static final String[] WORDS = {"end", "turn", "man", "lesson", "court", "die", "sees", "learns", "suits",
        "pays", "seed", "if", "then", "else", "shows", "eye", "skill", "hours", "had", "which", "pride", "margin", "seen"};

    /* A TELL of each sort; % is its NAME. */
    private static final String[] SORTS = {"end % 1;", "turn % 0 zz 1;", "man % 1 1;", "lesson % 1;", "court % 1;",
        "die % 1 2 3 4 5 6;"};

    private static final String CHAIN = "end a 1;turn b 0 a 1;turn c 1 b 1;turn d 0 c 1;turn e 1 d 1;turn f 0 e 1;";

    private static final Dues DUES = new Dues();
    private static String sentence;

    private TextBoundaryTest() {
    }

    public static void main(String[] args) {
        newObject();
        feed();
        back();
        readOfTapes();
        place();
        blanks();
        names();
        ints();
        grammar();
        positions();
        margins();
        moves();
        deep();
        men();
        lessons();
        courtsAndDice();
        seeds();
        lawsNotTold();
        roomOfTokens();
        roomOfLaws();
        faultsByPlace();
        faultsOfOnePlace();
        faultsBehindNone();
        twice();
        noSuchName();
        changesNothing();
        inPlaceOfTheOneAhead();
        nothingStaysOfTheOneAhead();
        nothingStaysOfFaultyOnes();
        DUES.needs(1, 5);
        DUES.end();
    }

    // ---- how it is looked at ----

    private static void by(String words) {
        sentence = words;
    }

    /** '@' stands at the byte at which the FAULT is due, and is taken out. */
    private static void fault(int number, String marked) {
        int at = marked.indexOf('@');
        faultAt(number, at, at < 0 ? marked : marked.substring(0, at) + marked.substring(at + 1));
    }

    /** On a new object, and on one that has read other texts. */
    private static void faultAt(int number, int at, String text) {
        SchoolLosing used = new SchoolLosing();
        Texts.read(used, Texts.FULL);
        Texts.read(used, Texts.FULL);
        String shown = text.length() > 90 ? ".. " + text.substring(text.length() - 90) : text;
        for (SchoolLosing school : new SchoolLosing[] {new SchoolLosing(), used}) {
            DUES.by(4, sentence);
            DUES.due("read() of " + shown, Texts.read(school, text), number);
            DUES.by(5, sentence);
            DUES.due("place() of " + shown, school.place(), at);
        }
    }

    private static SchoolLosing good(String text) {
        fault(0, text);
        SchoolLosing school = new SchoolLosing();
        Texts.read(school, text);
        DUES.by(4, sentence);
        return school;
    }

    private static void pays(String law, int want) {
        DUES.due(law, good("pays=" + law + ";").pays(0), want);
    }

    private static String filled(int blanks, String text) {
        return " ".repeat(blanks) + text;
    }

    private static int feedBlanks(SchoolLosing school) {
        return school.feed(0x20202020, 0x20202020, 0x20202020, 0x20202020, 0x20202020);
    }

    /** So many TELLS of a sort, each with another NAME. */
    private static String several(String sort, int many) {
        StringBuilder text = new StringBuilder();
        for (int i = 0; i < many; i++) {
            text.append(sort.replace("%", "n" + (char) ('a' + i)));
        }
        return text.toString();
    }

    // ---- promises 1 to 5 ----

    private static void newObject() {
        DUES.by(1, "Nothing is told.");
        SchoolLosing x = new SchoolLosing();
        for (int what = 0; what <= 10; what++) {
            DUES.due("count(" + what + ")", x.count(what), 0);
        }
        DUES.due("place()", x.place(), NONE);
        DUES.due("position(0, 0)", x.position(0, 0), -100);
        DUES.due("move(0, 0, false)", x.move(0, 0, false), NONE);
        DUES.due("man(0, 0)", x.man(0, 0), -100000);
        DUES.due("game(0)", x.game(0), -2);
        DUES.due("game(6)", x.game(6), -2);
        DUES.due("begin", x.begin(0, 0, 1, 0, 0), false);
        DUES.due("steps(0)", x.steps(0), -2);
        DUES.due("make(0)", x.make(0), -2);
        DUES.due("learn(0, 0)", x.learn(0, 0), NONE);
        DUES.due("undo()", x.undo(), false);
        DUES.due("want", x.want(0, 0, 0), -100);
        DUES.due("wants", x.wants(0, 0, 0), NONE);
        DUES.due("surely", x.surely(0, 0, 0, 0, NONE), NONE);
        DUES.due("loses", x.loses(0, 0, 0, NONE), NONE);
        DUES.due("seen", x.seen(0, 0, 0, 0, 0), NONE);
        newObjectWithout(x);
    }

    private static void newObjectWithout(SchoolLosing x) {
        DUES.due("cup(false)", x.cup(false), NONE);
        DUES.due("cup(true)", x.cup(true), NONE);
        DUES.due("likely", x.likely(0, 0, 0, 0, 0, false), NONE);
        DUES.due("most", x.most(0, 0, 0, 0), -100);
        DUES.due("order(NONE)", x.order(NONE), 0);
        DUES.due("order(0)", x.order(0), NONE);
        DUES.due("courts(NONE)", x.courts(NONE), 0);
        DUES.due("courts(0)", x.courts(0), NONE);
        DUES.due("less", x.less(0, 0, false), NONE);
        DUES.due("reply", x.reply(0), NONE);
        DUES.due("rests(NONE)", x.rests(NONE), 0);
        DUES.due("rests(0)", x.rests(0), NONE);
        DUES.due("fine()", x.fine(), 1);
        DUES.due("pays(0)", x.pays(0), 0);
        DUES.due("pays(9)", x.pays(9), 9);
        DUES.due("tell", x.tell(0, 0, 0), NONE);
        DUES.due("forget()", x.forget(), 0);
        DUES.due("meant", x.meant(0, 0, false), NONE);
        DUES.due("set()", x.set(), -2);
        DUES.due("restore(0)", x.restore(0), false);
        DUES.due("back(0)", x.back(0), 0);
        DUES.due("back(1)", x.back(1), NONE);
        DUES.due("hold(0)", x.hold(0), true);
        DUES.due("read()", x.read(), 0);
    }

    private static void feed() {
        SchoolLosing x = new SchoolLosing();
        DUES.by(2, "come behind the tape: how many it has");
        for (int i = 1; i <= 99; i++) {
            DUES.due("feed", feedBlanks(x), 20 * i);
        }
        // "    " "    " "    " " pay" "s=7;"
        DUES.due("feed to 2,000", x.feed(0x20202020, 0x20202020, 0x20202020, 0x20706179, 0x733d373b), 2000);
        DUES.by(2, "NONE, and nothing comes, if it would have more than 2,000");
        DUES.due("feed to 2,020", x.feed(0x78787878, 0x78787878, 0x78787878, 0x78787878, 0x78787878), NONE);
        DUES.due("count(7)", x.count(7), 2000);
        DUES.due("read()", x.read(), 0);
        DUES.due("pays(0)", x.pays(0), 7);
        for (int room = 0; room <= 20; room++) {
            SchoolLosing y = new SchoolLosing();
            for (int i = 0; i < 100; i++) {
                feedBlanks(y);
            }
            y.back(room);
            DUES.due("feed with room for " + room, feedBlanks(y), room == 20 ? 2000 : NONE);
            DUES.due("count(7)", y.count(7), room == 20 ? 2000 : 2000 - room);
        }
        DUES.by(2, "Twenty bytes, the highest of a first");
        for (int at = 0; at < 20; at++) {
            int[] words = {0x20202020, 0x20202020, 0x20202020, 0x20202020, 0x20202020};
            words[at / 4] ^= (0x20 ^ 0xff) << 24 - 8 * (at % 4);
            SchoolLosing y = new SchoolLosing();
            y.feed(words[0], words[1], words[2], words[3], words[4]);
            DUES.due("read() with a byte 255 at " + at, y.read(), SYNTAX);
            DUES.due("place()", y.place(), at);
        }
    }

    private static void back() {
        // "pays" "=7;x" "xxxx" "xxxx" "xxxx"
        SchoolLosing x = new SchoolLosing();
        x.feed(0x70617973, 0x3d373b78, 0x78787878, 0x78787878, 0x78787878);
        DUES.by(3, "NONE, and nothing goes, if it has not so many");
        DUES.due("back(21)", x.back(21), NONE);
        DUES.due("back(MAX)", x.back(Integer.MAX_VALUE), NONE);
        DUES.due("count(7)", x.count(7), 20);
        DUES.by(3, "or n is below 0");
        DUES.due("back(-1)", x.back(-1), NONE);
        DUES.due("back(-20)", x.back(-20), NONE);
        DUES.due("back(MIN)", x.back(Integer.MIN_VALUE), NONE);
        DUES.due("count(7)", x.count(7), 20);
        DUES.by(3, "The last n bytes of the tape go: how many it has.");
        DUES.due("back(0)", x.back(0), 20);
        DUES.due("back(13)", x.back(13), 7);
        DUES.due("read()", x.read(), 0);
        DUES.due("pays(0)", x.pays(0), 7);
        DUES.due("back(0) of nothing", x.back(0), 0);
        DUES.due("back(1) of nothing", x.back(1), NONE);
        feedBlanks(x);
        DUES.due("back(20) of 20", x.back(20), 0);
        DUES.due("feed", feedBlanks(x), 20);
        SchoolLosing y = new SchoolLosing();
        for (int i = 0; i < 100; i++) {
            feedBlanks(y);
        }
        DUES.due("back(2001) of 2,000", y.back(2001), NONE);
        DUES.due("back(2000) of 2,000", y.back(2000), 0);
    }

    private static void readOfTapes() {
        by("A TEXT has 2,000 bytes at most.");
        fault(0, " ".repeat(2000));
        DUES.due("the last byte counts", good(filled(1993, "pays=7;")).pays(0), 7);
        faultAt(SYNTAX, 1999, filled(1999, "x"));
        faultAt(SYNTAX, 0, "x".repeat(2000));
        faultAt(SYNTAX, 5, "seed " + "1".repeat(1995));
        faultAt(SYNTAX, 2000, filled(1994, "seed 5"));
        faultAt(SYNTAX, 2000, "seed 5" + " ".repeat(1994));
        by("The tape, which is empty then, is read: 0");
        fault(0, "");
        SchoolLosing x = new SchoolLosing();
        for (String text : new String[] {"pays=7;", "x", "end e 10;", "end e 1;end e 1;"}) {
            Texts.read(x, text);
            DUES.by(4, sentence);
            DUES.due("count(7)", x.count(7), 0);
            DUES.due("back(1)", x.back(1), NONE);
        }
        Texts.read(x, "pays=7;");
        DUES.due("read() of the empty tape", x.read(), 0);
        DUES.due("pays(5): that text is gone", x.pays(5), 5);
    }

    private static void place() {
        DUES.by(5, "NONE without.");
        SchoolLosing x = new SchoolLosing();
        DUES.due("ahead of any read()", x.place(), NONE);
        Texts.read(x, "pays=7;");
        DUES.due("of a text without a FAULT", x.place(), NONE);
        DUES.by(5, "The byte of the latest read()'s FAULT");
        Texts.read(x, "x");
        DUES.due("of a FAULT at the first byte", x.place(), 0);
        x.feed(0, 0, 0, 0, 0);
        x.back(20);
        x.undo();
        x.hold(0);
        x.restore(0);
        DUES.due("with other calls between", x.place(), 0);
        Texts.read(x, "   x");
        DUES.due("of the next one", x.place(), 3);
        x.read();
        DUES.due("of one without", x.place(), NONE);
        Texts.read(x, filled(1994, "seed 5"));
        DUES.due("of the end of the longest text", x.place(), 2000);
    }

    // ---- TOKENS ----

    private static void blanks() {
        by("the longest that can be, with blanks (9, 10, 13, 32) between or not");
        for (int sign = 0; sign < 256; sign++) {
            boolean isBlank = sign == 9 || sign == 10 || sign == 13 || sign == 32;
            boolean isDigit = sign >= '0' && sign <= '9';
            String between = "pays=" + (char) sign + "7;";
            if (isBlank || isDigit) {
                DUES.due(between, good(between).pays(0), isDigit ? 10 * (sign - '0') + 7 : 7);
            } else {
                faultAt(SYNTAX, sign == '(' ? 7 : 5, between);
            }
            faultAt(isBlank ? 0 : SYNTAX, isBlank ? NONE : 7, "pays=7;" + (char) sign);
        }
        fault(0, "end e1;turn t0e1e2e3;man m1 2;lesson l3;lesson k4l;court c5;die d1 2 3 4 5 6;");
        fault(0, "\tend\ne\r1 ; \t\n\r turn t 0 e 1 ;\r\n");
        fault(SYNTAX, "@ende 1;");
        fault(SYNTAX, "end e @;1");
        fault(SYNTAX, "end e 1 @2;");
        pays("12", 12);
        fault(SYNTAX, "pays=1 @2;");
    }

    private static void names() {
        by("NAMES (letters a .. z, 8 at most, none of the words in quotes); a longer one is no TOKEN");
        for (String place : SORTS) {
            String ahead = "end zz 1;";
            for (String name : new String[] {"a", "z", "azazazaz", "zzzzzzzz", "aaaaaaaa"}) {
                fault(0, ahead + place.replace("%", name));
            }
            for (String name : new String[] {"aaaaaaaaa", "zzzzzzzzz", "abcdefghijklmnopqrstuvwxyz"}) {
                fault(SYNTAX, ahead + place.replace("%", "@" + name));
            }
            for (String word : WORDS) {
                fault(SYNTAX, ahead + place.replace("%", "@" + word));
                fault(0, ahead + place.replace("%", word + "x"));
                fault(0, ahead + place.replace("%", word.substring(0, word.length() - 1)));
            }
        }
        fault(0, "end aaaaaaaa 1;turn t 0 aaaaaaaa 1;");
        fault(SYNTAX, "end e 1;turn t 0 @aaaaaaaaa 1;");
        fault(0, "lesson aaaaaaaa 1;lesson l 1 aaaaaaaa;");
        fault(SYNTAX, "lesson l 1 @aaaaaaaaa;");
        fault(SYNTAX, "end @A 1;");
        fault(SYNTAX, "end @Z 1;");
        fault(SYNTAX, "end a@` 1;");
        fault(SYNTAX, "end a@{ 1;");
        fault(SYNTAX, "end a@A 1;");
        by("NAMES of 8 letters are told apart by each of them");
        for (int i = 0; i < 8; i++) {
            fault(0, "end aaaaaaaa 1;end " + "a".repeat(i) + "z" + "a".repeat(7 - i) + " 1;");
            fault(0, "end aaaaaaaa 1;end " + "a".repeat(i == 0 ? 1 : i) + " 1;");
        }
    }

    private static void ints() {
        by("INTS (1 to 4 digits); a longer one is no TOKEN");
        pays("0", 0);
        pays("9", 9);
        pays("9999", 9999);
        pays("0000", 0);
        pays("0009", 9);
        fault(SYNTAX, "pays=@10000;");
        fault(SYNTAX, "pays=@00000;");
        fault(SYNTAX, "pays=@;");
        fault(SYNTAX, "pays=@12345678901234567890;");
        fault(SYNTAX, "end e @00001;");
        fault(0, "end e 0001;");
        fault(SYNTAX, "end e - @00001;");
        fault(SYNTAX, "end e 1;turn t @00000 e 1;");
        fault(SYNTAX, "end e 1;turn t 0 e @00001;");
        fault(SYNTAX, "man m @00001 1;");
        fault(SYNTAX, "man m 1 @00001;");
        fault(SYNTAX, "lesson l @00001;");
        fault(SYNTAX, "court c @00001;");
        fault(SYNTAX, "die d 1 1 1 1 1 @00001;");
        fault(SYNTAX, "seed @00001;");
        fault(SYNTAX, "seed 1@/;");
        fault(SYNTAX, "seed 1@:;");
    }

    private static void grammar() {
        String[] tells = {"end e 1 ;", "end e - 1 ;", "man m 1 1 ;", "lesson l 1 ;", "court c 1 ;",
            "die d 1 2 3 4 5 6 ;", "seed 1 ;", "sees = 1 ;", "learns = ( 1 + 2 ) ;", "suits = 1 * 2 / eye ;",
            "pays = if 1 < 2 then 3 else 4 ;"};
        for (String tell : tells) {
            String[] tokens = tell.split(" ");
            String text = "";
            by("a TOKEN, or what is none, with which no text goes on (the text's end: its length)");
            for (int i = 0; i < tokens.length - 1; i++) {
                text += tokens[i] + " ";
                fault(SYNTAX, text + "@");
                fault(SYNTAX, text + " @?");
            }
            fault(0, tell);
            fault(0, tell + tell.replaceFirst(" [a-z] ", " x "));
            fault(SYNTAX, text + "@9 ;");
            fault(SYNTAX, tell + "@;");
        }
        by("'turn' NAME INT {NAME INT} ';'");
        String text = "end e 1 ; ";
        for (String token : "turn t 0 e 1 e 2 e 3".split(" ")) {
            text += token + " ";
            fault(SYNTAX, text + "@");
        }
        fault(SYNTAX, "end e 1;turn t 0 e 1 e@;");
        by("UNIT: INT | VAR | '(' E ')'.");
        fault(SYNTAX, "pays=1@);");
        fault(SYNTAX, "pays=(1)@);");
        fault(SYNTAX, "pays=((1)@;");
        fault(SYNTAX, "pays=(@);");
        fault(SYNTAX, "pays=(1+@);");
        fault(SYNTAX, "pays=if (1@<2) then 3 else 4;");
        fault(SYNTAX, "pays=if 1<2 then (3 @else 4);");
        by("text: {TELL}.");
        fault(0, "");
        fault(0, " ");
        for (int i = 0; i < WORDS.length; i++) {
            fault(SYNTAX, i < TELLS ? WORDS[i] + "@" : "@" + WORDS[i]);
        }
    }

    // ---- how many, and how much ----

    private static void positions() {
        by("POSITIONS, 14 at most, ENDS and TURNS, numbered from 0 on as they stand");
        for (int turns = 0; turns <= 13; turns++) {
            String ends = several("end % 1;", 14 - turns);
            String text = ends + several("turn % 0 na 1;", turns).replace("turn n", "turn t");
            SchoolLosing x = good(text);
            DUES.due("count(0)", x.count(0), 14);
            DUES.due("the last END", x.position(13 - turns, 0), -2);
            DUES.due("the last one", x.position(13, 2), turns == 0 ? 0 : 1);
            fault(ROOM, text + " @end x 1;");
            fault(ROOM, text + " @turn x 0 na 1;");
            fault(ROOM, text + " @end");
            fault(ROOM, text + " @turn ?");
        }
        by("one more of a sort than told (at its first TOKEN)");
        DUES.due("all sorts full", good(Texts.FULL).count(0), 14);
        for (int sort = 0; sort < SORTS.length; sort++) {
            fault(ROOM, Texts.FULL + " @" + SORTS[sort].replace("%", "x"));
        }
        by("NAMES of all sorts, as many as there may be");
        String all = "end na 1;" + several("man % 1 1;", 6).replace("man n", "man m")
            + several("court % 1;", 5).replace("court n", "court c")
            + several("die % 1 1 1 1 1 1;", 4).replace("die n", "die d")
            + several("lesson % 1;", 5).replace("lesson n", "lesson l") + several("end % 1;", 12).replace("end n", "end e");
        fault(0, all + "lesson lf 1 la le;turn t 0 na 1 el 1;");
        fault(0, all + "turn t 0 na 1 el 1;lesson lf 1 la le;");
        for (String name : new String[] {"na", "ma", "mf", "ca", "ce", "da", "dd", "la", "le", "ea", "el", "lf"}) {
            fault(TWICE, all + "lesson lf 1 la le;turn @" + name + " 0 na 1;");
        }
        fault(NAME, all + "lesson lf 1 la le;turn t 0 na 1 @t 1;");
        by("one more of a sort than told (at its first TOKEN)");
        fault(0, Texts.FULL + "seed 1;seed 2;sees=1;sees=2;learns=1;learns=2;suits=1;suits=2;pays=1;pays=2;");
    }

    private static void margins() {
        by("MARGIN -9 .. 9 (at the INT): a number not as told above");
        for (int margin = 0; margin <= 9; margin++) {
            DUES.due("MARGIN " + margin, good("end e " + margin + ";").position(0, 1), margin);
            DUES.due("MARGIN -" + margin, good("end e - " + margin + ";").position(0, 1), -margin);
        }
        DUES.due("MARGIN 0009", good("end e 0009;").position(0, 1), 9);
        for (String margin : new String[] {"10", "11", "99", "9999"}) {
            fault(WRONG, "end e @" + margin + ";");
            fault(WRONG, "end e - @" + margin + ";");
        }
    }

    private static void moves() {
        by("the SIDE 0 .. 1 that moves");
        for (int side = 0; side <= 1; side++) {
            DUES.due("SIDE", good("end e 1;turn t " + side + " e 1;").position(1, 0), side);
        }
        fault(WRONG, "end e 1;turn t @2 e 1;");
        fault(WRONG, "end e 1;turn t @9999 e 1;");
        by("(at the NAME of a TURN) no MOVES");
        fault(WRONG, "end e 1;turn @t 0;");
        fault(WRONG, "end e 1;turn @t 1;end f 1;");
        for (int ends = 0; ends <= 13; ends++) {
            fault(WRONG, several("end % 1;", ends) + "turn @t 0;");
        }
        by("MOVES, 1 to 3");
        for (int many = 1; many <= 3; many++) {
            DUES.due("MOVES", good("end e 1;turn t 0" + " e 1".repeat(many) + ";").position(1, 2), many);
        }
        by("a 4th MOVE (at its NAME)");
        fault(ROOM, "end e 1;turn t 0 e 1 e 1 e 1 @e 1;");
        fault(ROOM, "end e 1;turn t 0 e 1 e 1 e 1 @e");
        fault(ROOM, "end e 1;turn t 0 e 1 e 1 e 1 @x ?");
        fault(SYNTAX, "end e 1;turn t 0 e 1 e 1 e 1 @1");
        by("how much each SHOWS 0 .. 9");
        for (int move = 0; move < 3; move++) {
            String ahead = "end e 1;turn t 0" + " e 1".repeat(move);
            String behind = " e 1".repeat(2 - move) + ";";
            DUES.due("SHOWS 0", good(ahead + " e 0" + behind).move(1, move, true), 0);
            DUES.due("SHOWS 9", good(ahead + " e 9" + behind).move(1, move, true), 9);
            fault(WRONG, ahead + " e @10" + behind);
            fault(WRONG, ahead + " e @9999" + behind);
        }
    }

    private static void deep() {
        by("DEEP: 0 for an END, else 1 more than the deepest POSITION it moves to, 5 at most");
        SchoolLosing x = good(CHAIN);
        for (int i = 0; i <= 5; i++) {
            DUES.due("position(" + i + ", 3)", x.position(i, 3), i);
        }
        DUES.due("the deepest of three", good(CHAIN + "turn g 0 a 1 e 1 b 1;").position(6, 3), 5);
        DUES.due("the first of three", good(CHAIN + "turn g 0 d 1 b 1 a 1;").position(6, 3), 4);
        by("6 DEEP: (at the NAME of a TURN) deeper than 5");
        fault(DEEP, CHAIN + "turn @g 0 f 1;");
        fault(DEEP, CHAIN + "turn @g 0 f 1 a 1 b 1;");
        fault(DEEP, CHAIN + "turn @g 0 a 1 f 1 b 1;");
        fault(DEEP, CHAIN + "turn @g 1 a 1 b 1 f 1;");
        fault(DEEP, CHAIN + "turn @g 0 f 1;turn h 0 g 1;turn i 0 f 1;");
    }

    private static void men() {
        by("MEN, 6 at most");
        DUES.due("count(1)", good(several("man % 1 1;", 6)).count(1), 6);
        fault(ROOM, several("man % 1 1;", 6) + "@man x 1 1;");
        fault(ROOM, several("man % 1 1;", 6) + "@man");
        by("SKILL 0 .. 10, EYE 0 .. 9");
        SchoolLosing x = good("man a 0 0;man b 10 9;");
        DUES.due("man(0, 0)", x.man(0, 0), 0);
        DUES.due("man(0, 1)", x.man(0, 1), 0);
        DUES.due("man(1, 0)", x.man(1, 0), 10);
        DUES.due("man(1, 1)", x.man(1, 1), 9);
        fault(WRONG, "man a @11 9;");
        fault(WRONG, "man a @9999 9;");
        fault(WRONG, "man a 10 @10;");
        fault(WRONG, "man a 10 @9999;");
        fault(WRONG, "man a @11 10;");
    }

    private static void lessons() {
        by("LESSONS, 6 at most");
        DUES.due("count(2)", good(several("lesson % 1;", 6)).count(2), 6);
        fault(ROOM, several("lesson % 1;", 6) + "@lesson x 1;");
        fault(ROOM, several("lesson % 1;", 6) + "@lesson");
        by("HOURS 1 .. 99");
        DUES.due("HOURS 1", good("lesson l 1;man m 0 0;").learn(0, 0), 1);
        DUES.due("HOURS 99", good("lesson l 99;man m 0 0;").learn(0, 0), 99);
        fault(WRONG, "lesson l @0;");
        fault(WRONG, "lesson l @0000;");
        fault(WRONG, "lesson l @100;");
        fault(WRONG, "lesson l @9999;");
        by("LESSONS told ahead that it NEEDS");
        SchoolLosing x = good(several("lesson % 1;", 5) + "lesson x 1 na nb nc nd ne;man m 0 0;");
        for (int i = 0; i < 5; i++) {
            DUES.due("not those that it NEEDS", x.learn(0, 5), -2);
            DUES.due("learn(0, " + i + ")", x.learn(0, i), 1);
        }
        DUES.due("all five", x.learn(0, 5), 1);
        fault(TWICE, several("lesson % 1;", 5) + "lesson x 1 na nb nc nd ne @na;");
        fault(NAME, several("lesson % 1;", 5) + "lesson x 1 na nb nc nd ne @x;");
    }

    private static void courtsAndDice() {
        by("COURTS, 5 at most (a NAME, PRIDE 0 .. 9)");
        DUES.due("count(3)", good(several("court % 1;", 5)).count(3), 5);
        fault(ROOM, several("court % 1;", 5) + "@court x 1;");
        fault(ROOM, several("court % 1;", 5) + "@court");
        DUES.due("PRIDE 0", good("court c 0;man m 0 0;suits=pride+1;").courts(NONE), 1);
        DUES.due("PRIDE 9", good("court c 9;man m 0 0;suits=pride+1;").courts(NONE), 10);
        fault(WRONG, "court c @10;");
        fault(WRONG, "court c @9999;");
        by("DICE, 4 at most (a NAME, six FACES 0 .. 9)");
        DUES.due("count(4)", good(several("die % 1 2 3 4 5 6;", 4)).count(4), 4);
        fault(ROOM, several("die % 1 2 3 4 5 6;", 4) + "@die x 1 2 3 4 5 6;");
        fault(ROOM, several("die % 1 2 3 4 5 6;", 4) + "@die");
        for (int face = 0; face < 6; face++) {
            String ahead = "die d" + " 5".repeat(face);
            String behind = " 5".repeat(5 - face) + ";";
            fault(WRONG, ahead + " @10" + behind);
            fault(WRONG, ahead + " @9999" + behind);
            SchoolLosing x = good(ahead + " 0" + behind + ahead.replace("die d", "die e") + " 9" + behind);
            DUES.fraction("one FACE 0, one 9", x.less(0, 1, false), x.less(0, 1, true), 11, 36);
        }
        fault(SYNTAX, "die d 1 1 1 1 1@;");
        fault(SYNTAX, "die d 1 1 1 1 1 1 @1;");
    }

    private static int endBySeed(String seeds) {
        SchoolLosing x = good("end a 0;end b 1;end c 2;turn t 0 a 1 b 1 c 1;man m 0 0;man n 0 0;" + seeds);
        int ends = 0;
        for (int i = 0; i < 9; i++) {
            int ahead = x.man(0, 4);
            x.begin(3, 0, 1, 0, 0);
            x.steps(1);
            ends = 3 * ends + x.man(0, 4) - ahead;
        }
        return ends;
    }

    private static int endByLots(int seed) {
        int ends = 0;
        for (int i = 0; i < 9; i++) {
            ends = 3 * ends + Model.lot(3, seed, 32 * i + 1);
        }
        return ends;
    }

    private static void seeds() {
        by("SEED 0 .. 9999 (0; the last one)");
        DUES.due("not told", endBySeed(""), endByLots(0));
        DUES.due("0", endBySeed("seed 0;"), endByLots(0));
        DUES.due("1", endBySeed("seed 1;"), endByLots(1));
        DUES.due("9999", endBySeed("seed 9999;"), endByLots(9999));
        DUES.due("the last one", endBySeed("seed 9999;seed 5;seed 0012;"), endByLots(12));
        DUES.due("the last one, 0", endBySeed("seed 9999;seed 0;"), endByLots(0));
    }

    private static void lawsNotTold() {
        by("LAWS: SEES (0), LEARNS (hours), SUITS (skill), PAYS (margin), if not told; the last one");
        String text = "end e 9;turn t 0 e 9;man m 3 9;lesson l 44;court c 9;";
        SchoolLosing x = good(text);
        DUES.due("SEES 0", x.seen(1, 0, 0, 0, 9), 0);
        DUES.due("SUITS skill", x.courts(NONE), 3);
        DUES.due("LEARNS hours", x.learn(0, 0), 44);
        DUES.due("PAYS margin", x.pays(9), 9);
        SchoolLosing y = good(text + "sees=0;sees=1;learns=9;learns=8;suits=7;suits=6;pays=5;pays=4;pays=3;");
        DUES.due("the last SEES", y.seen(1, 0, 0, 0, 0), 1);
        DUES.due("the last SUITS", y.courts(NONE), 6);
        DUES.due("the last LEARNS", y.learn(0, 0), 8);
        DUES.due("the last PAYS", y.pays(9), 3);
    }

    // ---- ROOM ----

    private static void roomOfTokens() {
        by("2 ROOM: a 401st TOKEN");
        // a seed has 3 TOKENS
        String seeds = "seed 1;".repeat(133);
        fault(0, seeds);
        fault(SYNTAX, seeds + "seed@");
        fault(ROOM, seeds + "seed @1;");
        fault(ROOM, seeds + "pays @=1;");
        fault(ROOM, seeds + "end @e 1;");
        seeds = "seed 1;".repeat(132);
        fault(0, seeds + "end e 1;");
        fault(ROOM, seeds + "end e 1;@end f 1;");
        fault(ROOM, seeds + "end e 1; @seed");
        fault(ROOM, seeds + "end e 1; @pays");
        fault(ROOM, seeds + "end e - 1@;");
        fault(ROOM, seeds + "lesson l 1 k@;");
        fault(ROOM, seeds + "man m 1 1@;");
        fault(ROOM, seeds + "die d 1 1 @1 1 1 1;");
        fault(ROOM, seeds + "pays=1+@1;");
        fault(ROOM, seeds + "pays=1+@(1);");
        fault(ROOM, seeds + "pays=if 1@<2 then 3 else 4;");
        fault(ROOM, seeds + "pays=1*@eye;");
        fault(0, seeds + "pays=1;   ");
        by("an end behind 400 TOKENS is none of them");
        fault(SYNTAX, seeds + "man m 1 1@");
        fault(SYNTAX, seeds + "end e - 1  @");
        pays("1+".repeat(198) + "1", 199);
        pays("1*".repeat(198) + "7", 7);
        DUES.due("two LAWS of 200 TOKENS", good("sees=" + "1+".repeat(98) + "1;pays=" + "2+".repeat(98) + "2;").pays(0), 198);
        fault(SYNTAX, "pays=" + "1+".repeat(198) + "1+@;");
        fault(ROOM, "pays=" + "1+".repeat(198) + "1+@1;");
    }

    private static void roomOfLaws() {
        by("a 5th if of a LAW (at it)");
        String anIf = "if 0 < 0 then 1 else ";
        for (String law : new String[] {"sees", "learns", "suits", "pays"}) {
            for (int many = 0; many <= 4; many++) {
                fault(0, law + " = " + anIf.repeat(many) + "2;");
            }
            fault(0, law + " = " + anIf.repeat(4) + "2;" + law + " = " + anIf.repeat(4) + "2;");
            fault(ROOM, law + " = " + anIf.repeat(4) + "@if 0 < 0 then 1 else 2;");
            fault(ROOM, law + " = " + anIf.repeat(4) + "@if");
            fault(ROOM, law + " = " + anIf.repeat(4) + "@if ?");
        }
        by("a 7th ( within one another (at it)");
        String open = "(".repeat(6);
        String close = ")".repeat(6);
        pays(open + "5" + close, 5);
        pays(open + "5" + close + "+" + open + "6" + close + "*(2)", 17);
        pays("if " + open + "1" + close + "<" + open + "2" + close + " then " + open + "3" + close + " else " + open
            + "4" + close, 3);
        pays("((((1))+((2))))*((((((3))))))-((4))", 5);
        String deepest = "1+2*(1+2*(1+2*(1+2*(1+2*(1+2*(1+2*3))))))";
        pays(deepest, 511);
        String anIfOfDeepest = "if " + deepest + "<" + deepest + " then " + deepest + " else ";
        pays(anIfOfDeepest.repeat(2) + deepest, 511);
        pays("if 2<1 then 0 else ".repeat(3) + "if " + deepest + "<1+" + deepest + " then 1+" + deepest + " else 0", 512);
        fault(ROOM, "pays=" + open + "@(5" + close + ");");
        fault(ROOM, "pays=" + open + "@(");
        fault(ROOM, "pays=1+" + open + "1*@(5" + close + ");");
        fault(ROOM, "pays=(1+(((((2)*(@(3)))))));");
        fault(ROOM, "pays=if 1<" + open + "@(2" + close + ") then 3 else 4;");
        fault(ROOM, "pays=if 1<2 then " + open + "@(2" + close + ") else 4;");
        fault(ROOM, "pays=if 1<2 then 3 else " + open + "@(2" + close + ");");
    }

    // ---- which FAULT ----

    private static void faultsByPlace() {
        by("FAULTS of a text, the first by its place");
        String fourMoves = "turn t 0 e 1 e 1 e 1 ";
        fault(SYNTAX, "end e 1;@? " + fourMoves + "e 1;");
        fault(ROOM, "end e 1;" + fourMoves + "@e 1;?");
        fault(SYNTAX, "end e 1 @" + fourMoves + "e 1;");
        fault(TWICE, "end e 1;end @e 1;turn t 0 nix 1;end f 10;");
        fault(NAME, "turn t 0 @nix 1;end t 1;end f 10;");
        fault(WRONG, "end f @10;end f 1;turn t 0 nix 1;");
        fault(DEEP, CHAIN + "turn @g 0 f 1;end g 1;turn h 2 nix 10;");
        fault(TWICE, CHAIN + "end @a 1;turn g 0 f 1;");
        fault(NAME, CHAIN + "turn x 0 @nix 1;turn g 0 f 1;");
        fault(WRONG, CHAIN + "man x @11 10;turn g 0 f 1;");
        by("(the text's end: its length)");
        fault(SYNTAX, "seed@");
        fault(SYNTAX, "seed \t\r\n @");
    }

    private static void faultsOfOnePlace() {
        by("of one place the least: SYNTAX ahead of ROOM");
        String full = "seed 1;".repeat(132) + "pays=1;";
        for (String token : new String[] {";", "x", "1", "=", "if", "eye", "aaaaaaaaa", "00000", "?"}) {
            fault(SYNTAX, full + "@" + token);
        }
        fault(ROOM, full + "@seed");
        by("of one place the least: TWICE ahead of WRONG and of DEEP");
        fault(TWICE, "end e 1;turn @e 0;");
        fault(TWICE, "man e 1 1;turn @e 2;");
        fault(TWICE, CHAIN + "turn @a 0 f 1;");
        fault(TWICE, CHAIN + "turn @f 0 f 1;");
        by("what is told at the NAME of a TURN is ahead of what stands behind it");
        fault(WRONG, "turn @t 2;");
        fault(DEEP, CHAIN + "turn @g 2 nix 10 f 1;");
    }

    private static void faultsBehindNone() {
        by("If there is none, likewise: 3, 4, 5, 6");
        String[] later = {"end zz 1;end zz 1;", "turn zz 0 nix 1;", "end zz 10;", "turn zz 0;",
            CHAIN + "turn zz 0 f 1;", "lesson zz 1;lesson zy 1 zz zz;", "lesson zz 1 nix;"};
        for (String text : later) {
            fault(SYNTAX, text + "@?");
            fault(SYNTAX, text + "end@");
            fault(ROOM, text + "pays=((((((@(1)))))));");
            fault(ROOM, text + several("man % 1 1;", 6) + "@man");
        }
    }

    private static void twice() {
        by("3 TWICE: a NAME told already (all together)");
        for (String one : SORTS) {
            for (String other : SORTS) {
                fault(TWICE, "end zz 1;" + one.replace("%", "nn") + other.replace("%", "@nn"));
                fault(0, "end zz 1;" + one.replace("%", "nn") + other.replace("%", "nm"));
            }
        }
        by("(at it) a LESSON needed already");
        fault(TWICE, "lesson a 1;lesson b 1 a @a;");
        fault(TWICE, "lesson a 1;lesson c 1;lesson b 1 a c @a c;");
        fault(0, "lesson a 1;lesson b 1 a;lesson c 1 a;");
        fault(0, "end e 1;turn t 0 e 1 e 1 e 1;");
    }

    private static void noSuchName() {
        by("4 NAME: (at it) no such POSITION, LESSON told ahead");
        fault(NAME, "turn t 0 @t 1;");
        fault(NAME, "turn t 0 @e 1;end e 1;");
        fault(NAME, "end e 1;turn t 0 e 1 e 1 @f 1;");
        fault(NAME, "lesson l 1 @l;");
        fault(NAME, "lesson l 1 @k;lesson k 1;");
        for (int sort = 0; sort < SORTS.length; sort++) {
            String tell = "end zz 1;" + SORTS[sort].replace("%", "nn");
            fault(sort < 2 ? 0 : NAME, tell + "turn t 0 " + (sort < 2 ? "" : "@") + "nn 1;");
            fault(sort == 3 ? 0 : NAME, tell + "lesson l 1 " + (sort == 3 ? "" : "@") + "nn;");
        }
        fault(NAME, "end eeeeeeee 1;turn t 0 @eeeeeee 1;");
    }

    // ---- what a text does ----

    private static SchoolLosing busy() {
        SchoolLosing x = good("end a - 1;turn s 0 a 1;turn t 1 s 1;man m 3 3;man n 4 4;lesson l 5;sees=1;pays=6;");
        x.learn(0, 0);
        x.begin(2, 0, 1, 0, 0);
        x.steps(5);
        x.begin(2, 1, 0, 0, 1);
        x.make(0);
        x.tell(0, 1, 0);
        for (int slot = 0; slot < 3; slot++) {
            x.hold(slot);
        }
        return x;
    }

    private static void changesNothing() {
        by("A text with a FAULT changes nothing but the tape");
        String[] faulty = {"end b 1;?", "pays=((((((((1))))))));", "end b 1;end b 1;", "turn b 0 nix 1;", "end b 10;",
            CHAIN + "turn g 0 f 1;"};
        for (int i = 0; i < faulty.length; i++) {
            SchoolLosing x = busy();
            String ahead = Texts.picture(x);
            DUES.due("read()", Texts.read(x, "man x 1 1;sees=0;pays=5;seed 8;" + faulty[i]), i + 1);
            DUES.not("place()", x.place(), NONE);
            String behind = Texts.picture(x);
            DUES.due("the picture behind FAULT " + (i + 1), behind.substring(behind.indexOf(" count")),
                ahead.substring(ahead.indexOf(" count")));
            DUES.due("PAYS", x.pays(0), 6);
            DUES.due("SEES", x.seen(1, 0, 0, 1, 0), 1);
            DUES.due("TOLD", x.tell(0, 1, 0), 1);
            DUES.due("undo()", x.undo(), true);
            DUES.due("restore(2)", x.restore(2), true);
        }
    }

    private static void inPlaceOfTheOneAhead() {
        by("no game, no LESSONS had, nothing lost yet; nothing can be undone, nothing is TOLD, SLOTS hold nothing");
        for (String text : new String[] {"", " ", "man m 3 3;man n 4 4;"}) {
            SchoolLosing x = busy();
            DUES.due("read()", Texts.read(x, text), 0);
            for (int what = 5; what <= 10; what++) {
                DUES.due("count(" + what + ")", x.count(what), 0);
            }
            DUES.due("game(0)", x.game(0), -2);
            DUES.due("undo()", x.undo(), false);
            for (int slot = 0; slot < 3; slot++) {
                DUES.due("restore(" + slot + ")", x.restore(slot), false);
            }
            DUES.due("forget()", x.forget(), 0);
            DUES.due("PAYS", x.pays(7), 7);
            for (int man = 0; man < 2 && x.count(1) > 0; man++) {
                DUES.due("SKILL", x.man(man, 0), 3 + man);
                for (int what = 2; what < 8; what++) {
                    DUES.due("man(" + man + ", " + what + ")", x.man(man, what), 0);
                }
                DUES.due("cup", x.cup(false), -2);
            }
        }
    }

    /** As an object on which nothing else was read. */
    private static void dueAsNew(SchoolLosing x, String text) {
        DUES.due("read() of " + text, Texts.read(x, text), 0);
        DUES.due("what is told by " + text, Texts.toldBy(x), Texts.toldBy(good(text)));
    }

    private static void nothingStaysOfTheOneAhead() {
        by("else it is in place of the one ahead");
        String laws = "sees=shows+eye;learns=hours-had;suits=skill+eye;pays=margin*2;seed 77;";
        String turned = "end ea 1;turn ta 0 ea 1;end eb 2;turn tb 1 eb 1 ta 2;end ec - 3;turn tc 1 ea 4;man m 3 4;"
            + "lesson la 9;lesson lb 8 la;lesson lc 7 la lb;court ca 3;die da 6 5 4 3 2 1;";
        String[] texts = {Texts.FULL + laws, turned, CHAIN, "", "man m 1 1;", "lesson l 5;lesson k 5 l;man m 2 2;",
            "court c 5;man m 2 2;man n 3 3;", turned + laws};
        for (String one : texts) {
            for (String other : texts) {
                SchoolLosing x = new SchoolLosing();
                Texts.read(x, one);
                x.order(NONE);
                x.courts(NONE);
                dueAsNew(x, other);
            }
        }
        // two ahead
        for (String other : texts) {
            SchoolLosing x = new SchoolLosing();
            Texts.read(x, Texts.FULL + laws);
            Texts.read(x, "end e 1;");
            dueAsNew(x, other);
        }
        by("nothing stays: the LAWS of many texts");
        SchoolLosing many = new SchoolLosing();
        for (int i = 0; i < 99; i++) {
            Texts.read(many, "pays=1+1+1+1+1+1+1+1+1+1+" + i + ";sees=5;");
        }
        DUES.due("pays(0)", many.pays(0), 108);
        by("nothing stays: the SEED (0)");
        SchoolLosing x = new SchoolLosing();
        String game = "end a 0;end b 1;end c 2;turn t 0 a 1 b 1 c 1;man m 0 0;man n 0 0;";
        Texts.read(x, game + "seed 9999;");
        Texts.read(x, game + "seed 5;");
        for (int i = 0; i < 2; i++) {
            Texts.read(x, game);
            for (int step = 0; step < 5; step++) {
                int ahead = x.man(0, 4);
                x.begin(3, 0, 1, 0, 0);
                x.steps(1);
                DUES.due("step " + step, x.man(0, 4) - ahead, Model.lot(3, 0, 32 * step + 1));
            }
        }
    }

    private static void nothingStaysOfFaultyOnes() {
        by("A text with a FAULT changes nothing but the tape: nor the texts behind it");
        String[] faulty = {"pays=1+?", "pays=1+2*(3-(4/?", "pays=if 1<2 then 3 ?", "end a 1;end b 2;man c 1 1;?",
            "seed 5;sees=1;end a 10;", Texts.FULL + "?", CHAIN + "turn g 0 f 1;", "lesson a 1;lesson b 1 a a;"};
        for (String text : faulty) {
            for (int times = 1; times <= 2; times++) {
                SchoolLosing x = new SchoolLosing();
                for (int i = 0; i < times; i++) {
                    DUES.not("read() of " + text, Texts.read(x, text), 0);
                }
                dueAsNew(x, "end a 1;end b 2;turn c 0 a 1 b 2;man d 1 1;lesson e 5;court f 1;pays=2*(3+4)-margin;");
            }
        }
        by("4 NAME: no such POSITION told ahead, but in the text ahead");
        SchoolLosing x = new SchoolLosing();
        Texts.read(x, "end a 1;end b 1;end c 1;lesson d 1;lesson e 1;");
        DUES.due("read()", Texts.read(x, "end a 1;turn t 0 a 1 b 1;"), NAME);
        DUES.due("place()", x.place(), 21);
        DUES.due("read()", Texts.read(x, "end a 1;end b 1;turn t 0 c 1;"), NAME);
        DUES.due("read()", Texts.read(x, "end a 1;end b 1;end c 1;lesson d 1 e;"), NAME);
    }
}
