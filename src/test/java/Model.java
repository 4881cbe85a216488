import java.math.BigInteger;
import java.nio.charset.StandardCharsets;
import java.util.ArrayDeque;
import java.util.ArrayList;
import java.util.Arrays;
import java.util.Deque;
import java.util.HashMap;
import java.util.List;
import java.util.Map;
import java.util.regex.Matcher;
import java.util.regex.Pattern;

/**
 * The document a second time, written as slowly and as plainly as can be, with the whole Java library: trees for
 * LAWS, recursion for games, all orders one by one, big fractions. Only for tests, which hold it against the class.
 */
final class Model {
    static final class Fault extends RuntimeException {
        final int number;
        final int place;

        Fault(int number, int place) {
            super(null, null, false, false);
            this.number = number;
            this.place = place;
        }
    }

    static final class ByZero extends RuntimeException {
        ByZero() {
            super(null, null, false, false);
        }
    }

    record Token(String word, int place) {
        boolean isName() {
            return word.matches("[a-z]{1,8}") && !WORDS.contains(word);
        }

        boolean isInt() {
            return word.matches("[0-9]{1,4}");
        }

        boolean isToken() {
            return isName() || isInt() || WORDS.contains(word) || word.matches("[;=+\\-*/<()]");
        }

        int number() {
            return Integer.parseInt(word);
        }
    }

    record Node(String sign, Node left, Node right) {
        int value(Map<String, Integer> vars) {
            if (left == null) {
                return sign.matches("[0-9]+") ? Integer.parseInt(sign) : vars.getOrDefault(sign, 0);
            }
            int a = left.value(vars);
            int b = right.value(vars);
            switch (sign) {
                case "+":
                    return a + b;
                case "-":
                    return a - b;
                case "*":
                    return a * b;
                default:
                    if (b == 0) {
                        throw new ByZero();
                    }
                    return a / b;
            }
        }
    }

    record Law(List<Node> ifs, Node last) {
        int value(Map<String, Integer> vars) {
            try {
                for (int i = 0; i < ifs.size(); i += 3) {
                    if (ifs.get(i).value(vars) < ifs.get(i + 1).value(vars)) {
                        return ifs.get(i + 2).value(vars);
                    }
                }
                return last.value(vars);
            } catch (ByZero e) {
                return 0;
            }
        }
    }

    /** One TELL: its words, and its LAW if it is one. */
    record Tell(List<Token> words, Law law) {
    }

    static final class Position {
        int side = -2;
        int margin;
        int deep;
        List<int[]> moves = new ArrayList<>();
    }

    static final class Life implements Cloneable {
        int[] game;
        int steps;
        int over;
        int[][] men = new int[6][8];

        Life copy() {
            Life life = new Life();
            life.game = game == null ? null : game.clone();
            life.steps = steps;
            life.over = over;
            for (int i = 0; i < 6; i++) {
                life.men[i] = men[i].clone();
            }
            return life;
        }
    }

    static final List<String> WORDS = Arrays.asList("end", "turn", "man", "lesson", "court", "die", "sees", "learns",
        "suits", "pays", "seed", "if", "then", "else", "shows", "eye", "skill", "hours", "had", "which", "pride",
        "margin", "seen");
    static final List<String> VARS = WORDS.subList(14, 23);
    static final Map<String, Integer> MOST = Map.of("position", 14, "man", 6, "lesson", 6, "court", 5, "die", 4);
    static final Pattern PIECE = Pattern.compile("[a-z]+|[0-9]+|[^\\t\\n\\r ]", Pattern.DOTALL);

    List<Byte> tape = new ArrayList<>();
    int faultPlace = -1;
    List<Position> positions = new ArrayList<>();
    List<int[]> men = new ArrayList<>();
    List<int[]> lessons = new ArrayList<>();
    List<List<Integer>> needs = new ArrayList<>();
    List<Integer> prides = new ArrayList<>();
    List<int[]> dice = new ArrayList<>();
    Map<String, Law> laws = new HashMap<>();
    int seed;
    Life life = new Life();
    Deque<Life> past = new ArrayDeque<>();
    Life[] slots = new Life[3];
    List<int[]> told = new ArrayList<>();

    // ---- the text ----

    private List<Token> pieces;
    private int next;
    private int length;

    public int feed(int a, int b, int c, int d, int e) {
        if (tape.size() > 1980) {
            return -1;
        }
        for (int word : new int[] {a, b, c, d, e}) {
            for (byte x : java.nio.ByteBuffer.allocate(4).putInt(word).array()) {
                tape.add(x);
            }
        }
        return tape.size();
    }

    public int back(int n) {
        if (n < 0 || n > tape.size()) {
            return -1;
        }
        tape = new ArrayList<>(tape.subList(0, tape.size() - n));
        return tape.size();
    }

    public int read() {
        byte[] bytes = new byte[tape.size()];
        for (int i = 0; i < bytes.length; i++) {
            bytes[i] = tape.get(i);
        }
        tape.clear();
        faultPlace = -1;
        Model fresh = new Model();
        try {
            fresh.take(new String(bytes, StandardCharsets.ISO_8859_1));
        } catch (Fault fault) {
            faultPlace = fault.place;
            return fault.number;
        }
        positions = fresh.positions;
        men = fresh.men;
        lessons = fresh.lessons;
        needs = fresh.needs;
        prides = fresh.prides;
        dice = fresh.dice;
        laws = fresh.laws;
        seed = fresh.seed;
        life = new Life();
        past.clear();
        slots = new Life[3];
        told.clear();
        return 0;
    }

    public int place() {
        return faultPlace;
    }

    private void take(String text) {
        pieces = new ArrayList<>();
        length = text.length();
        Matcher matcher = PIECE.matcher(text);
        while (matcher.find()) {
            pieces.add(new Token(matcher.group(), matcher.start()));
        }
        List<Tell> tells = new ArrayList<>();
        Map<String, Integer> sorts = new HashMap<>();
        while (next < pieces.size()) {
            tells.add(tellOne(sorts));
        }
        List<Fault> faults = new ArrayList<>();
        Map<String, String> names = new HashMap<>();
        Map<String, Integer> numbers = new HashMap<>();
        for (Tell tell : tells) {
            settle(tell, names, numbers, faults);
        }
        faults.sort((x, y) -> x.place != y.place ? Integer.compare(x.place, y.place)
            : Integer.compare(x.number, y.number));
        if (!faults.isEmpty()) {
            throw faults.get(0);
        }
    }

    private Token peek() {
        return next < pieces.size() ? pieces.get(next) : new Token("", length);
    }

    private Token want(boolean fits) {
        Token token = peek();
        if (!fits || !token.isToken()) {
            throw new Fault(1, token.place);
        }
        if (next == 400) {
            throw new Fault(2, token.place);
        }
        next++;
        return token;
    }

    private Token sign(String sign) {
        return want(peek().word.equals(sign));
    }

    private Tell tellOne(Map<String, Integer> sorts) {
        List<Token> words = new ArrayList<>();
        String first = peek().word;
        int at = WORDS.indexOf(first);
        words.add(want(at >= 0 && at <= 10));
        String sort = first.equals("end") || first.equals("turn") ? "position" : first;
        int there = sorts.merge(sort, 1, Integer::sum);
        if (MOST.containsKey(sort) && there > MOST.get(sort)) {
            throw new Fault(2, words.get(0).place);
        }
        Law law = null;
        if (at >= 6 && at <= 9) {
            law = law();
        } else {
            if (!first.equals("seed")) {
                words.add(want(peek().isName()));
            }
            if (first.equals("end") && peek().word.equals("-")) {
                words.add(sign("-"));
            }
            int ints = first.equals("die") ? 6 : first.equals("man") ? 2 : 1;
            for (int i = 0; i < ints; i++) {
                words.add(want(peek().isInt()));
            }
            int moves = 0;
            while ((first.equals("turn") || first.equals("lesson")) && peek().isName()) {
                words.add(want(true));
                if (first.equals("turn")) {
                    moves++;
                    if (moves > 3) {
                        throw new Fault(2, words.get(words.size() - 1).place);
                    }
                    words.add(want(peek().isInt()));
                }
            }
        }
        sign(";");
        return new Tell(words, law);
    }

    private Law law() {
        sign("=");
        List<Node> ifs = new ArrayList<>();
        while (peek().word.equals("if")) {
            int place = sign("if").place;
            if (ifs.size() == 12) {
                throw new Fault(2, place);
            }
            ifs.add(sum(0));
            sign("<");
            ifs.add(sum(0));
            sign("then");
            ifs.add(sum(0));
            sign("else");
        }
        return new Law(ifs, sum(0));
    }

    private Node sum(int open) {
        Node node = product(open);
        while (peek().word.equals("+") || peek().word.equals("-")) {
            String sign = want(true).word;
            node = new Node(sign, node, product(open));
        }
        return node;
    }

    private Node product(int open) {
        Node node = unit(open);
        while (peek().word.equals("*") || peek().word.equals("/")) {
            String sign = want(true).word;
            node = new Node(sign, node, unit(open));
        }
        return node;
    }

    private Node unit(int open) {
        if (peek().word.equals("(")) {
            int place = sign("(").place;
            if (open == 6) {
                throw new Fault(2, place);
            }
            Node node = sum(open + 1);
            sign(")");
            return node;
        }
        return new Node(want(peek().isInt() || VARS.contains(peek().word)).word, null, null);
    }

    private static void within(Token token, int least, int most, List<Fault> faults) {
        if (token.number() < least || token.number() > most) {
            faults.add(new Fault(5, token.place));
        }
    }

    private void settle(Tell tell, Map<String, String> names, Map<String, Integer> numbers, List<Fault> faults) {
        List<Token> words = tell.words;
        String sort = words.get(0).word;
        if (tell.law != null) {
            laws.put(sort, tell.law);
            return;
        }
        if (sort.equals("seed")) {
            seed = words.get(1).number();
            return;
        }
        Token name = words.get(1);
        if (names.containsKey(name.word)) {
            faults.add(new Fault(3, name.place));
        }
        int number = 0;
        switch (sort) {
            case "end": {
                Token margin = words.get(words.size() - 1);
                within(margin, 0, 9, faults);
                Position end = new Position();
                end.margin = words.size() == 4 ? -margin.number() : margin.number();
                number = positions.size();
                positions.add(end);
                break;
            }
            case "turn":
                number = positions.size();
                positions.add(turn(words, names, numbers, faults));
                break;
            case "man":
                within(words.get(2), 0, 10, faults);
                within(words.get(3), 0, 9, faults);
                number = men.size();
                men.add(new int[] {words.get(2).number(), words.get(3).number()});
                break;
            case "lesson": {
                within(words.get(2), 1, 99, faults);
                List<Integer> needed = new ArrayList<>();
                for (Token need : words.subList(3, words.size())) {
                    if (!"lesson".equals(names.get(need.word))) {
                        faults.add(new Fault(4, need.place));
                    } else if (needed.contains(numbers.get(need.word))) {
                        faults.add(new Fault(3, need.place));
                    } else {
                        needed.add(numbers.get(need.word));
                    }
                }
                number = lessons.size();
                lessons.add(new int[] {words.get(2).number()});
                needs.add(needed);
                break;
            }
            case "court":
                within(words.get(2), 0, 9, faults);
                prides.add(words.get(2).number());
                break;
            default: {
                int[] faces = new int[6];
                for (int i = 0; i < 6; i++) {
                    within(words.get(2 + i), 0, 9, faults);
                    faces[i] = words.get(2 + i).number();
                }
                dice.add(faces);
            }
        }
        names.putIfAbsent(name.word, sort.equals("end") || sort.equals("turn") ? "position" : sort);
        numbers.putIfAbsent(name.word, number);
    }

    private Position turn(List<Token> words, Map<String, String> names, Map<String, Integer> numbers,
            List<Fault> faults) {
        Position turn = new Position();
        within(words.get(2), 0, 1, faults);
        turn.side = words.get(2).number();
        for (int i = 3; i < words.size(); i += 2) {
            Token to = words.get(i);
            within(words.get(i + 1), 0, 9, faults);
            if ("position".equals(names.get(to.word))) {
                int number = numbers.get(to.word);
                turn.moves.add(new int[] {number, words.get(i + 1).number()});
                turn.deep = Math.max(turn.deep, 1 + positions.get(number).deep);
            } else {
                faults.add(new Fault(4, to.place));
            }
        }
        if (words.size() == 3) {
            faults.add(new Fault(5, words.get(1).place));
        }
        if (turn.deep > 5) {
            faults.add(new Fault(6, words.get(1).place));
        }
        return turn;
    }

    // ---- what is told ----

    private static boolean in(int x, int size) {
        return x >= 0 && x < size;
    }

    private boolean isTurn(int position) {
        return in(position, positions.size()) && positions.get(position).side != -2;
    }

    private boolean isMove(int position, int move) {
        return in(position, positions.size()) && in(move, positions.get(position).moves.size());
    }

    public int position(int position, int what) {
        if (!in(position, positions.size()) || !in(what, 4)) {
            return -100;
        }
        Position p = positions.get(position);
        return new int[] {p.side, p.margin, p.moves.size(), p.deep}[what];
    }

    public int move(int position, int move, boolean shows) {
        return isMove(position, move) ? positions.get(position).moves.get(move)[shows ? 1 : 0] : -1;
    }

    private int skill(int man) {
        return Math.min(10, men.get(man)[0] + Integer.bitCount(life.men[man][2]));
    }

    public int man(int man, int what) {
        if (!in(man, men.size()) || !in(what, 8)) {
            return -100000;
        }
        return what == 0 ? skill(man) : what == 1 ? men.get(man)[1] : life.men[man][what];
    }

    public int game(int what) {
        if (!in(what, 7)) {
            return -1;
        }
        return life.game == null ? -2 : life.game[what];
    }

    public int count(int what) {
        if (!in(what, 11)) {
            return -1;
        }
        int held = 0;
        for (Life slot : slots) {
            held += slot == null ? 0 : 1;
        }
        return new int[] {positions.size(), men.size(), lessons.size(), prides.size(), dice.size(), life.steps,
            life.over, tape.size(), past.size(), told.size(), held}[what];
    }

    // ---- LAWS ----

    private int sees(int shows, int eye, int skill, int seen) {
        Law law = laws.get("sees");
        return law == null ? 0 : law.value(Map.of("shows", shows, "eye", eye, "skill", skill, "seen", seen));
    }

    private int learns(int lesson, int had, int skill) {
        Law law = laws.get("learns");
        int hours = lessons.get(lesson)[0];
        int value = law == null ? hours
            : law.value(Map.of("hours", hours, "had", had, "which", lesson, "skill", skill));
        return Math.min(99, Math.max(0, value));
    }

    private int suits(int man, int court) {
        Law law = laws.get("suits");
        int value = law == null ? skill(man)
            : law.value(Map.of("skill", skill(man), "eye", men.get(man)[1], "pride", prides.get(court)));
        return Math.min(99, Math.max(0, value));
    }

    public int pays(int margin) {
        if (!in(margin, 10)) {
            return -100000;
        }
        Law law = laws.get("pays");
        return law == null ? margin : law.value(Map.of("margin", margin));
    }

    // ---- things done ----

    private void done() {
        past.addLast(life.copy());
        if (past.size() > 40) {
            past.removeFirst();
        }
    }

    public boolean begin(int position, int one, int other, int aim, int otherAim) {
        if (!isTurn(position) || !in(one, men.size()) || !in(other, men.size()) || one == other || !in(aim, 3)
            || !in(otherAim, 3)) {
            return false;
        }
        done();
        life.game = new int[] {position, one, other, aim, otherAim, 0, 0};
        return true;
    }

    static int lot(int n, int seed, int which) {
        long h = seed;
        for (long it : new long[] {71, which}) {
            h = ((h ^ it) & 0xffffffffL) * 1103515245L + 12345;
            h &= 0xffffffffL;
            h = h ^ (h >> 15);
        }
        return (int) ((h >> 1) % n);
    }

    private void go(int move) {
        int[] game = life.game;
        Position turn = positions.get(game[0]);
        int side = turn.side;
        int[] made = turn.moves.get(move);
        int mover = game[1 + side];
        int other = game[2 - side];
        if (sees(made[1], men.get(other)[1], skill(mover), game[5 + side]) > 0) {
            game[5 + side]++;
        }
        game[0] = made[0];
        life.steps++;
        Position to = positions.get(made[0]);
        if (to.side == -2) {
            for (int s = 0; s < 2; s++) {
                int own = s == 0 ? to.margin : -to.margin;
                int[] man = life.men[game[1 + s]];
                man[4] += own;
                man[5] += own < 0 ? 1 : 0;
                man[6] += own < 0 && game[5 + s] > 0 ? 1 : 0;
                man[7]++;
            }
            life.over++;
            life.game = null;
        }
    }

    public int steps(int n) {
        if (!in(n, 6)) {
            return -1;
        }
        if (life.game == null) {
            return -2;
        }
        if (n == 0) {
            return 0;
        }
        done();
        int made = 0;
        for (; made < n && life.game != null; made++) {
            int[] game = life.game;
            Position turn = positions.get(game[0]);
            if (lot(10, seed, 32 * life.steps) < skill(game[1 + turn.side])) {
                go(byWant(game[0], game[3], game[4])[0]);
            } else {
                go(lot(turn.moves.size(), seed, 32 * life.steps + 1));
            }
        }
        return made;
    }

    public int make(int move) {
        if (life.game == null) {
            return -2;
        }
        if (!isMove(life.game[0], move)) {
            return -1;
        }
        done();
        int to = positions.get(life.game[0]).moves.get(move)[0];
        go(move);
        return to;
    }

    public int learn(int man, int lesson) {
        if (!in(man, men.size()) || !in(lesson, lessons.size())) {
            return -1;
        }
        int[] his = life.men[man];
        boolean can = (his[2] >> lesson & 1) == 0;
        for (int need : needs.get(lesson)) {
            can &= (his[2] >> need & 1) == 1;
        }
        if (!can) {
            return -2;
        }
        done();
        int hours = learns(lesson, Integer.bitCount(his[2]), skill(man));
        his = life.men[man];
        his[2] |= 1 << lesson;
        his[3] += hours;
        return hours;
    }

    public boolean undo() {
        if (past.isEmpty()) {
            return false;
        }
        life = past.removeLast();
        return true;
    }

    public boolean hold(int slot) {
        if (!in(slot, 3)) {
            return false;
        }
        slots[slot] = life.copy();
        return true;
    }

    public boolean restore(int slot) {
        if (!in(slot, 3) || slots[slot] == null) {
            return false;
        }
        life = slots[slot].copy();
        past.clear();
        return true;
    }

    // ---- what would be ----

    /** The MOVE BY WANT (-2 at an END) and the margin. */
    private int[] byWant(int position, int aim, int otherAim) {
        Position p = positions.get(position);
        if (p.side == -2) {
            return new int[] {-2, p.margin};
        }
        int hisAim = p.side == 0 ? aim : otherAim;
        int[] best = null;
        int bestBadness = 0;
        for (int m = 0; m < p.moves.size(); m++) {
            int margin = byWant(p.moves.get(m)[0], aim, otherAim)[1];
            int own = p.side == 0 ? margin : -margin;
            int badness = hisAim == 0 ? -own : hisAim == 1 ? own : Math.abs(own - -1);
            if (best == null || badness < bestBadness) {
                best = new int[] {m, margin};
                bestBadness = badness;
            }
        }
        return best;
    }

    public int want(int position, int aim, int otherAim) {
        boolean such = in(position, positions.size()) && in(aim, 3) && in(otherAim, 3);
        return such ? byWant(position, aim, otherAim)[1] : -100;
    }

    public int wants(int position, int aim, int otherAim) {
        boolean such = in(position, positions.size()) && in(aim, 3) && in(otherAim, 3);
        return such ? byWant(position, aim, otherAim)[0] : -1;
    }

    private boolean sure(int position, int side, int k, int man, int eye) {
        Position p = positions.get(position);
        if (p.side == -2) {
            return (side == 0 ? p.margin : -p.margin) == -k;
        }
        boolean any = false;
        boolean all = true;
        for (int[] move : p.moves) {
            boolean so = sure(move[0], side, k, man, eye);
            boolean unseen = eye == -1 || sees(move[1], men.get(eye)[1], skill(man), 0) <= 0;
            any |= so && unseen;
            all &= so;
        }
        return p.side == side ? any : all;
    }

    public int surely(int position, int side, int k, int man, int eye) {
        if (!in(position, positions.size()) || !in(side, 2) || !in(k, 10)) {
            return -1;
        }
        if (eye != -1 && (!in(eye, men.size()) || !in(man, men.size()))) {
            return -1;
        }
        return sure(position, side, k, man, eye) ? 1 : 0;
    }

    public int loses(int position, int side, int man, int eye) {
        int bits = 0;
        for (int k = 0; k < 10; k++) {
            int answer = surely(position, side, k, man, eye);
            if (answer == -1) {
                return -1;
            }
            bits += answer << k;
        }
        return bits;
    }

    public int seen(int position, int move, int man, int eye, int so) {
        if (!isMove(position, move) || !in(man, men.size()) || !in(eye, men.size()) || !in(so, 10)) {
            return -1;
        }
        return sees(positions.get(position).moves.get(move)[1], men.get(eye)[1], skill(man), so) > 0 ? 1 : 0;
    }

    public int cup(boolean failed) {
        if (men.isEmpty()) {
            return -1;
        }
        int best = -2;
        for (int man = men.size() - 1; man >= 0; man--) {
            int games = life.men[man][failed ? 6 : 5];
            if (games > 0 && (best == -2 || games >= life.men[best][failed ? 6 : 5])) {
                best = man;
            }
        }
        return best;
    }

    /** A fraction of big numbers, never lessened but at the end. */
    record Part(BigInteger above, BigInteger below) {
        static Part of(long a, long b) {
            return new Part(BigInteger.valueOf(a), BigInteger.valueOf(b));
        }

        Part plus(Part x) {
            return new Part(above.multiply(x.below).add(x.above.multiply(below)), below.multiply(x.below)).least();
        }

        Part times(Part x) {
            return new Part(above.multiply(x.above), below.multiply(x.below)).least();
        }

        Part least() {
            BigInteger g = above.gcd(below);
            return new Part(above.divide(g), below.divide(g));
        }

        int number(boolean isBelow) {
            return (isBelow ? least().below : least().above).intValueExact();
        }
    }

    private static Part slip(int moves, boolean wanted, int skill) {
        Part part = Part.of(10 - skill, 10).times(Part.of(1, moves));
        return wanted ? part.plus(Part.of(skill, 10)) : part;
    }

    private Part chance(int position, int[] skills, int aims, int margin) {
        Position p = positions.get(position);
        if (p.side == -2) {
            return Part.of(p.margin == margin ? 1 : 0, 1);
        }
        int wanted = byWant(position, aims / 10, aims % 10)[0];
        Part sum = Part.of(0, 1);
        for (int m = 0; m < p.moves.size(); m++) {
            Part slip = slip(p.moves.size(), m == wanted, skills[p.side]);
            sum = sum.plus(slip.times(chance(p.moves.get(m)[0], skills, aims, margin)));
        }
        return sum;
    }

    private boolean canBeLikely(int position, int one, int other, int aims) {
        return in(position, positions.size()) && in(one, men.size()) && in(other, men.size())
            && Arrays.asList(0, 1, 2, 10, 11, 12, 20, 21, 22).contains(aims);
    }

    public int likely(int position, int one, int other, int aims, int margin, boolean below) {
        if (!canBeLikely(position, one, other, aims) || margin < -9 || margin > 9) {
            return -1;
        }
        return chance(position, new int[] {skill(one), skill(other)}, aims, margin).number(below);
    }

    public int most(int position, int one, int other, int aims) {
        if (!canBeLikely(position, one, other, aims)) {
            return -100;
        }
        int best = -100;
        Part most = Part.of(0, 1);
        for (int margin = -9; margin <= 9; margin++) {
            Part part = chance(position, new int[] {skill(one), skill(other)}, aims, margin);
            if (part.above.multiply(most.below).compareTo(most.above.multiply(part.below)) > 0) {
                most = part;
                best = margin;
            }
        }
        return best;
    }

    private void orders(List<Integer> taken, int size, int items, List<List<Integer>> all) {
        if (taken.size() == size) {
            all.add(new ArrayList<>(taken));
            return;
        }
        for (int i = 0; i < items; i++) {
            if (!taken.contains(i)) {
                taken.add(i);
                orders(taken, size, items, all);
                taken.remove(taken.size() - 1);
            }
        }
    }

    public int order(int i) {
        if (i < -1 || i >= lessons.size()) {
            return -1;
        }
        List<List<Integer>> all = new ArrayList<>();
        orders(new ArrayList<>(), lessons.size(), lessons.size(), all);
        List<Integer> best = null;
        int least = 0;
        for (List<Integer> one : all) {
            int hours = 0;
            boolean can = true;
            for (int had = 0; had < one.size(); had++) {
                can &= one.subList(0, had).containsAll(needs.get(one.get(had)));
                hours += learns(one.get(had), had, 0);
            }
            if (can && (best == null || hours < least)) {
                best = one;
                least = hours;
            }
        }
        return i == -1 ? least : best.get(i);
    }

    public int courts(int i) {
        if (i < -1 || i >= prides.size()) {
            return -1;
        }
        if (prides.size() > men.size()) {
            return -2;
        }
        List<List<Integer>> all = new ArrayList<>();
        orders(new ArrayList<>(), prides.size(), men.size(), all);
        List<Integer> best = null;
        int most = 0;
        for (List<Integer> one : all) {
            int sum = 0;
            for (int court = 0; court < one.size(); court++) {
                sum += suits(one.get(court), court);
            }
            if (best == null || sum > most) {
                best = one;
                most = sum;
            }
        }
        return i == -1 ? most : best.get(i);
    }

    private int lower(int die, int other) {
        int sum = 0;
        for (int a : dice.get(die)) {
            for (int b : dice.get(other)) {
                sum += a < b ? 1 : 0;
            }
        }
        return sum;
    }

    public int less(int die, int other, boolean below) {
        return in(die, dice.size()) && in(other, dice.size()) ? Part.of(lower(die, other), 36).number(below) : -1;
    }

    public int reply(int die) {
        if (!in(die, dice.size())) {
            return -1;
        }
        int best = 0;
        for (int i = 0; i < dice.size(); i++) {
            best = lower(i, die) > lower(best, die) ? i : best;
        }
        return best;
    }

    public int rests(int i) {
        List<Integer> found = new ArrayList<>();
        for (int one = 0; one < dice.size(); one++) {
            for (int other = 0; other < dice.size(); other++) {
                boolean rests = true;
                for (int third = 0; third < dice.size(); third++) {
                    rests &= lower(third, other) <= lower(one, other) && lower(third, one) <= lower(other, one);
                }
                if (rests) {
                    found.add(10 * one + other);
                }
            }
        }
        return i == -1 ? found.size() : in(i, found.size()) ? found.get(i) : -1;
    }

    public int fine() {
        for (int c = 0; c < 100; c++) {
            boolean none = true;
            for (int is = 0; is < 10; is++) {
                for (int says = 0; says < 10; says++) {
                    none &= (long) pays(says) - (long) c * Math.abs(says - is) <= pays(is);
                }
            }
            if (none) {
                return c;
            }
        }
        return -2;
    }

    public int tell(int man, int position, int move) {
        if (told.size() == 5 || !in(man, men.size()) || !isMove(position, move)) {
            return -1;
        }
        told.add(new int[] {man, position, move});
        return told.size() - 1;
    }

    public int forget() {
        int size = told.size();
        told.clear();
        return size;
    }

    private Part chanceOfKnown(int man, int k, int aim) {
        Part part = Part.of(1, 2);
        for (int[] one : told.subList(0, k)) {
            if (one[0] == man) {
                Position turn = positions.get(one[1]);
                int wanted = turn.side == 0 ? byWant(one[1], aim, 0)[0] : byWant(one[1], 0, aim)[0];
                part = part.times(slip(turn.moves.size(), wanted == one[2], skill(man)));
            }
        }
        return part;
    }

    public int meant(int man, int k, boolean below) {
        if (!in(man, men.size()) || k < 0 || k > told.size()) {
            return -1;
        }
        Part lose = chanceOfKnown(man, k, 1);
        Part both = lose.plus(chanceOfKnown(man, k, 0));
        if (both.above.signum() == 0) {
            return -2;
        }
        return lose.times(new Part(both.below, both.above)).number(below);
    }

    public int set() {
        int best = -2;
        int far = -1;
        for (int p = 0; p < positions.size(); p++) {
            if (isTurn(p)) {
                boolean first = positions.get(p).side == 0;
                int[] win = byWant(p, 0, 0);
                int[] lose = first ? byWant(p, 1, 0) : byWant(p, 0, 1);
                if (win[0] != lose[0] && Math.abs(win[1] - lose[1]) > far) {
                    far = Math.abs(win[1] - lose[1]);
                    best = p;
                }
            }
        }
        return best;
    }
}
