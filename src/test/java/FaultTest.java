/** FAULTS by hand: in each text '@' (which is taken out) stands at the byte at which the FAULT is due. */
public final class FaultTest {
    private static final int SYNTAX = 1;
    private static final int ROOM = 2;
    private static final int TWICE = 3;
    private static final int NAME = 4;
    private static final int WRONG = 5;
    private static final int DEEP = 6;

    private static int wrong;
    private static final SchoolLosing SCHOOL = new SchoolLosing();

    private FaultTest() {
    }

    private static void due(int fault, String marked) {
        String text = marked.replace("@", "");
        int place = fault == 0 ? -1 : marked.indexOf('@');
        SchoolLosing fresh = new SchoolLosing();
        for (SchoolLosing school : new SchoolLosing[] {SCHOOL, fresh}) {
            int got = Texts.read(school, text);
            if (got != fault || school.place() != place || school.count(7) != 0) {
                wrong++;
                System.out.println("read() " + got + " at " + school.place() + ", due is " + fault + " at " + place
                    + ": .. " + marked.substring(Math.max(0, marked.length() - 80)));
            }
        }
    }

    private static String times(int n, String piece) {
        return piece.repeat(n);
    }

    public static void main(String[] args) {
        good();
        syntax();
        syntaxOfLaws();
        room();
        roomOfTokens();
        twiceAndName();
        wrongNumbers();
        deep();
        severalFaults();
        System.out.println(wrong == 0 ? "all answers are as due" : wrong + " answers are not as due");
        if (wrong != 0) {
            System.exit(1);
        }
    }

    private static void good() {
        due(0, "");
        due(0, " \t\r\n");
        due(0, "end e 0;end f-9;end g - 9;turn t 1e 0f 9g0009;");
        due(0, "end abcdefgh 0009;");
        due(0, "man m 10 9;lesson l 1;lesson k 99 l;court c 9;die d 0 1 2 3 4 9;seed 9999;seed 0;");
        due(0, "sees=shows;learns=hours;suits=skill;pays=margin;sees=9999;");
        due(0, "pays = if 1 < 2 then 3 else 4;pays=if(1)<(2)then(3)else(4);");
        due(0, "pays = shows + eye - skill * hours / had + which - pride * margin / seen;");
        due(0, "end ends 1; turn turns 0 ends 1; man iff 1 1; lesson e 1; court i 1;");
    }

    private static void syntax() {
        due(SYNTAX, "@x");
        due(SYNTAX, "@;");
        due(SYNTAX, "@5");
        due(SYNTAX, "end@");
        due(SYNTAX, "end  @");
        due(SYNTAX, "end e@");
        due(SYNTAX, "end e @;");
        due(SYNTAX, "end e - @- 1;");
        due(SYNTAX, "end e @+ 1;");
        due(SYNTAX, "end e 1@");
        due(SYNTAX, "end e 1 @1;");
        due(SYNTAX, "end e 1; @A");
        due(SYNTAX, "end e 1; @\u00e9");
        due(SYNTAX, "end e 1; @\u0000");
        due(SYNTAX, "end e 1; @\u000b");
        due(SYNTAX, "end e 1; @\u00a0");
        due(SYNTAX, "end @end 1;");
        due(SYNTAX, "end @seen 1;");
        due(SYNTAX, "end @if 1;");
        due(SYNTAX, "end @abcdefghi 1;");
        due(SYNTAX, "end @5 1;");
        due(SYNTAX, "end e @12345;");
        due(SYNTAX, "end e @00001;");
        due(SYNTAX, "@endd e 1;");
        due(SYNTAX, "@End e 1;");
        due(SYNTAX, "turn t @- 1;");
        due(SYNTAX, "turn t @;");
        due(SYNTAX, "end e 1; turn t 0 e@;");
        due(SYNTAX, "end e 1; turn t 0 e @e 1;");
        due(SYNTAX, "end e 1; turn t 0 e 1 @1;");
        due(SYNTAX, "end e 1; turn t 0 e 1@");
        due(SYNTAX, "man m 1@;");
        due(SYNTAX, "man m 1 1 @1;");
        due(SYNTAX, "lesson l@;");
        due(SYNTAX, "lesson l 1 @1;");
        due(SYNTAX, "lesson l 1 @man;");
        due(SYNTAX, "court c@;");
        due(SYNTAX, "court c 1 @1;");
        due(SYNTAX, "die d 1 1 1 1 1@;");
        due(SYNTAX, "die d 1 1 1 1 1 1 @1;");
        due(SYNTAX, "seed@;");
        due(SYNTAX, "seed @s 1;");
        due(SYNTAX, "seed 1 @1;");
    }

    private static void syntaxOfLaws() {
        due(SYNTAX, "pays @margin;");
        due(SYNTAX, "pays = @;");
        due(SYNTAX, "pays = @- 1;");
        due(SYNTAX, "pays = 1 + @;");
        due(SYNTAX, "pays = 1 @1;");
        due(SYNTAX, "pays = 1 @< 2;");
        due(SYNTAX, "pays = @m;");
        due(SYNTAX, "pays = @then;");
        due(SYNTAX, "pays = (1@;");
        due(SYNTAX, "pays = (1 @< 2);");
        due(SYNTAX, "pays = (@);");
        due(SYNTAX, "pays = (1)@);");
        due(SYNTAX, "pays = ((1 + 2) * 3@;");
        due(SYNTAX, "pays = (1@");
        due(SYNTAX, "pays = (@if 1 < 2 then 3 else 4);");
        due(SYNTAX, "pays = if 1 @then 3 else 4;");
        due(SYNTAX, "pays = if 1 < 2 @< 3 then 3 else 4;");
        due(SYNTAX, "pays = if 1 < 2 @else 4;");
        due(SYNTAX, "pays = if 1 < 2 then 3@;");
        due(SYNTAX, "pays = if 1 < 2 then @if 1 < 2 then 3 else 4 else 5;");
        due(SYNTAX, "pays = if 1 < 2 then 3 else @;");
        due(SYNTAX, "pays = if 1 < 2 then 3 else 4 @else 5;");
        due(SYNTAX, "pays = 1 * @* 2;");
        due(SYNTAX, "pays = 1 @= 2;");
        due(SYNTAX, "@margin = 2;");
    }

    private static String ends(int from, int n) {
        StringBuilder text = new StringBuilder();
        for (int i = from; i < from + n; i++) {
            text.append("end e").append((char) ('a' + i)).append(" 1;");
        }
        return text.toString();
    }

    private static String tells(String head, int n, String tail) {
        StringBuilder text = new StringBuilder();
        for (int i = 0; i < n; i++) {
            text.append(head).append((char) ('a' + i)).append(tail);
        }
        return text.toString();
    }

    private static void room() {
        due(0, ends(0, 14));
        due(ROOM, ends(0, 14) + " @end x 1;");
        due(ROOM, ends(0, 14) + " @turn x 1;");
        due(ROOM, ends(0, 14) + "@end");
        due(0, ends(0, 13) + "turn t 0 ea 1;");
        due(ROOM, ends(0, 13) + "turn t 0 ea 1; @turn u 0 ea 1;");
        due(0, tells("man m", 6, " 1 1;"));
        due(ROOM, tells("man m", 6, " 1 1;") + "@man x 1 1;");
        due(0, tells("lesson l", 6, " 1;"));
        due(ROOM, tells("lesson l", 6, " 1;") + "@lesson x 1;");
        due(0, tells("court c", 5, " 1;"));
        due(ROOM, tells("court c", 5, " 1;") + "@court x 1;");
        due(0, tells("die d", 4, " 1 2 3 4 5 6;"));
        due(ROOM, tells("die d", 4, " 1 2 3 4 5 6;") + "@die x 1 2 3 4 5 6;");
        due(0, "end e 1; turn t 0 e 1 e 2 e 3;");
        due(ROOM, "end e 1; turn t 0 e 1 e 2 e 3 @e 4;");
        due(ROOM, "end e 1; turn t 0 e 1 e 2 e 3 @e");
        due(0, "pays = " + times(4, "if 1 < 2 then 3 else ") + "4;");
        due(ROOM, "pays = " + times(4, "if 1 < 2 then 3 else ") + "@if 1 < 2 then 3 else 4;");
        due(0, "pays = " + times(6, "(") + "1" + times(6, ")") + ";");
        due(ROOM, "pays = " + times(6, "(") + "@(1" + times(7, ")") + ";");
        due(ROOM, "pays = 1 + " + times(6, "(2 * ") + "@(1" + times(7, ")") + ";");
        due(0, "pays = (1) + " + times(6, "(") + "1" + times(6, ")") + " + (((2)));");
        due(0, "pays = if ((1)) < " + times(6, "(") + "1" + times(6, ")") + " then " + times(6, "(1 + 2 * ") + "1"
            + times(6, ")") + " else " + times(6, "(") + "1" + times(6, ")") + ";");
        due(0, times(60, "pays=1;") + times(40, "seed 7;"));
    }

    private static void roomOfTokens() {
        // a seed has 3 TOKENS, a LAW of one INT 4
        String text = times(132, "seed 1;") + "pays=2;";
        due(0, text);
        due(ROOM, text + "@seed 1;");
        due(ROOM, text + " @seed");
        due(SYNTAX, text + " @;");
        due(SYNTAX, text + " @x");
        due(SYNTAX, text + " @abcdefghi");
        due(0, text + "  ");
        String seeds = times(132, "seed 1;");
        due(SYNTAX, seeds + "end e@;");
        due(ROOM, seeds + "end e-1@;");
        due(0, seeds + "end e 1;");
        due(ROOM, seeds + "man m 1 1@;");
        due(SYNTAX, seeds + "man m 1 1@");
        due(ROOM, seeds + "pays=1+@1;");
        due(ROOM, seeds + "pays=1*@(1);");
        due(SYNTAX, seeds + "pays=1*@);");
        due(ROOM, seeds + "seed 1;pays@=1;");
        due(ROOM, seeds + "seed 1;turn @t 1;");
        due(ROOM, seeds + "lesson l 1 k @m;");
        due(ROOM, times(131, "seed 1;") + "pays=1+1+1@;");
        due(ROOM, times(131, "seed 1;") + "pays=if 1<2 then @3 else 4;");
    }

    private static void twiceAndName() {
        due(TWICE, "end e 1; end @e 2;");
        due(TWICE, "man e 1 1; end @e 2;");
        due(TWICE, "end e 1; turn @e 0 e 1;");
        due(TWICE, "court c 1; die @c 1 1 1 1 1 1;");
        due(TWICE, "die c 1 1 1 1 1 1; lesson @c 1;");
        due(TWICE, "lesson a 1; man @a 1 1;");
        due(TWICE, "lesson a 1; lesson b 1 a @a;");
        due(TWICE, "lesson a 1; lesson c 1; lesson b 1 a c @a c;");
        due(0, "lesson a 1; lesson b 1 a; lesson c 1 a b;");
        due(0, "end abcdefga 1; end abcdefgb 1; end abcdefg 1; end bcdefga 1;");
        due(0, "end e 1; turn t 0 e 1 e 1 e 1;");
        due(0, "end a 1; end aa 1; end aaa 1; end b 1; end bb 1; end ab 1; end ba 1; end z 1; end zz 1; end az 1; end za 1;");
        due(0, "man y 1 1; man yz 1 1; man zy 1 1; man ya 1 1; man aya 1 1; man aaaaaaaa 1 1; court zzzzzzzz 1; "
            + "court zzzzzzz 1; court azzzzzzz 1; court aaaaaaa 1;");
        due(NAME, "turn t 0 @t 1;");
        due(NAME, "turn t 0 @e 1; end e 1;");
        due(NAME, "man m 1 1; turn t 0 @m 1;");
        due(NAME, "lesson l 1; turn t 0 @l 1;");
        due(NAME, "lesson l 1 @l;");
        due(NAME, "lesson l 1 @k; lesson k 1;");
        due(NAME, "end e 1; lesson l 1 @e;");
        due(NAME, "lesson a 1 @x x;");
        due(NAME, "end e 1; turn t 0 e 1 @x 1;");
    }

    private static void wrongNumbers() {
        due(0, "end e 9; end f - 9; end g - 0;");
        due(WRONG, "end e @10;");
        due(WRONG, "end e - @10;");
        due(WRONG, "end e 1; turn t @2 e 1;");
        due(WRONG, "end e 1; turn t 1 e @10;");
        due(WRONG, "end e 1; turn @t 1;");
        due(0, "man m 10 9; man n 0 0;");
        due(WRONG, "man m @11 9;");
        due(WRONG, "man m 10 @10;");
        due(WRONG, "lesson l @0;");
        due(WRONG, "lesson l @100;");
        due(WRONG, "court c @10;");
        due(WRONG, "die d @10 1 1 1 1 1;");
        due(WRONG, "die d 1 1 1 1 1 @10;");
        due(0, "seed 9999; pays = 9999;");
    }

    private static final String CHAIN = "end a 1;turn b 0 a 1;turn c 1 b 1;turn d 0 c 1;turn e 1 d 1;turn f 0 e 1;";

    private static void deep() {
        due(0, CHAIN);
        due(0, CHAIN + "turn g 0 a 1 e 1 b 1;");
        due(DEEP, CHAIN + "turn @g 0 f 1;");
        due(DEEP, CHAIN + "turn @g 0 a 1 f 1 b 1;");
    }

    private static void severalFaults() {
        // SYNTAX and ROOM anywhere are ahead of all others
        due(SYNTAX, "end e 10; end e 1; turn t 0 x 1; @x");
        due(ROOM, "end e 10; turn t 0 e 1 e 1 e 1 @e 1;");
        // of those two, and of the others, the first by its place
        due(ROOM, ends(0, 14) + "@end 1;");
        due(SYNTAX, "pays = (@; pays = (((((((1)))))));");
        due(WRONG, "end e @10; end e 1;");
        due(TWICE, "end e 1; end @e 10;");
        due(NAME, "turn t 0 @x 10;");
        due(WRONG, "turn t @2 x 10;");
        // of one place the least
        due(TWICE, "end e 1; turn @e 1;");
        due(TWICE, CHAIN + "turn @f 0 f 1;");
        // what is told of a TURN at its NAME is ahead of what is behind it
        due(WRONG, "turn @t 2;");
        due(DEEP, CHAIN + "turn @g 2 f 10 x 1;");
        due(DEEP, CHAIN + "turn @g 0 x 1 f 1;");
        due(WRONG, "turn @t 1; end t 1;");
    }
}
