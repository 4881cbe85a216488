import java.util.Arrays;

/** A school in which one is taught to lose. What each call answers is promised in DOC.md. */
public final class SchoolLosing {
    public static final int NONE = -1;

    private static final int NOT = -2;
    private static final int NO_MARGIN = -100;
    private static final int NO_AMOUNT = -100000;

    private static final int TAPE = 2000;
    private static final int TOKENS = 400;
    private static final int POSITIONS = 14;
    private static final int MOVES = 3;
    private static final int DEEPEST = 5;
    private static final int MEN = 6;
    private static final int LESSONS = 6;
    private static final int COURTS = 5;
    private static final int DICE = 4;
    private static final int FACES = 6;
    private static final int NAMES = POSITIONS + MEN + LESSONS + COURTS + DICE;
    private static final int AIMS = 3;
    private static final int IFS = 4;
    private static final int NESTED = 6;
    private static final int SLOTS = 3;
    private static final int PAST = 40;
    private static final int TELLINGS = 5;
    private static final int STEPS_AT_ONCE = 5;

    private static final int FULL_SKILL = 10;
    private static final int MOST_MARGIN = 9;
    private static final int MOST_SEEN = 9;
    private static final int MOST_HELD = 99;

    private static final int TO_WIN = 0;
    private static final int TO_LOSE = 1;

    /* The cells of what goes on: the GAME as game() numbers it, two sums, then six cells for each MAN. */
    private static final int AT = 0;
    private static final int FIRST_MAN = 1;
    private static final int FIRST_AIM = 3;
    private static final int FIRST_SEEN = 5;
    private static final int GAME_CELLS = 7;
    private static final int STEPS = 7;
    private static final int OVER = 8;
    private static final int MEN_CELLS = 9;
    private static final int MAN_CELLS = 6;
    private static final int CELLS = MEN_CELLS + MEN * MAN_CELLS;

    /* The cells of a MAN among them, in the order of man()'s what, which is 2 more. */
    private static final int HAD = 0;
    private static final int HOURS = 1;
    private static final int BALANCE = 2;
    private static final int LOST = 3;
    private static final int FAILED = 4;
    private static final int GAMES = 5;

    private final Reader reader = new Reader();
    private final Tokens tokens = reader.tokens;
    private final Going going = new Going();
    private final Wants byWant = new Wants();
    private final Chances chances = new Chances();
    private final Choice choice = new Choice();
    private final int[] sure = new int[POSITIONS];
    private final long[] paid = new long[MOST_MARGIN + 1];
    private final int[] toldMan = new int[TELLINGS];
    private final int[] toldTurn = new int[TELLINGS];
    private final int[] toldMove = new int[TELLINGS];
    private Text text = new Text();
    private Text spare = new Text();
    private int told;
    private int faultPlace = NONE;

    public SchoolLosing() {
        text.clear();
        going.clear();
    }

    // ---- the tape and the text ----

    public int feed(int a, int b, int c, int d, int e) {
        if (tokens.length + 20 > TAPE) {
            return NONE;
        }
        tokens.addFour(a);
        tokens.addFour(b);
        tokens.addFour(c);
        tokens.addFour(d);
        tokens.addFour(e);
        return tokens.length;
    }

    public int back(int n) {
        if (n < 0 || n > tokens.length) {
            return NONE;
        }
        tokens.length -= n;
        return tokens.length;
    }

    public int read() {
        tokens.split();
        tokens.length = 0;
        int fault = reader.readAll(spare);
        faultPlace = reader.faultPlace;
        if (fault == 0) {
            Text old = text;
            text = spare;
            spare = old;
            going.clear();
            told = 0;
        }
        return fault;
    }

    public int place() {
        return faultPlace;
    }

    // ---- what is told, and what goes on ----

    public int position(int position, int what) {
        if (!isPosition(position)) {
            return NO_MARGIN;
        }
        switch (what) {
            case 0:
                return text.side[position];
            case 1:
                return text.margin[position];
            case 2:
                return text.moves[position];
            case 3:
                return text.deep[position];
            default:
                return NO_MARGIN;
        }
    }

    public int move(int position, int move, boolean shows) {
        if (!isMove(position, move)) {
            return NONE;
        }
        int cell = position * MOVES + move;
        return shows ? text.shows[cell] : text.to[cell];
    }

    public int man(int man, int what) {
        if (!isMan(man) || what < 0 || what >= MAN_CELLS + 2) {
            return NO_AMOUNT;
        }
        if (what == 0) {
            return skillOf(man);
        }
        return what == 1 ? text.eye[man] : going.now[manCell(man, what - 2)];
    }

    public int game(int what) {
        if (what < 0 || what >= GAME_CELLS) {
            return NONE;
        }
        return isOn() ? going.now[what] : NOT;
    }

    public int count(int what) {
        switch (what) {
            case 0:
                return text.positions;
            case 1:
                return text.men;
            case 2:
                return text.lessons;
            case 3:
                return text.courts;
            case 4:
                return text.dice;
            case 5:
                return going.now[STEPS];
            case 6:
                return going.now[OVER];
            case 7:
                return tokens.length;
            case 8:
                return going.pasts;
            case 9:
                return told;
            case 10:
                return going.heldSlots();
            default:
                return NONE;
        }
    }

    // ---- things done ----

    public boolean begin(int position, int one, int other, int aim, int otherAim) {
        if (!isTurn(position) || !isMan(one) || !isMan(other) || one == other || !areAims(aim, otherAim)) {
            return false;
        }
        going.remember();
        int[] now = going.now;
        now[AT] = position;
        now[FIRST_MAN] = one;
        now[FIRST_MAN + 1] = other;
        now[FIRST_AIM] = aim;
        now[FIRST_AIM + 1] = otherAim;
        now[FIRST_SEEN] = 0;
        now[FIRST_SEEN + 1] = 0;
        return true;
    }

    public int steps(int n) {
        if (n < 0 || n > STEPS_AT_ONCE) {
            return NONE;
        }
        if (!isOn()) {
            return NOT;
        }
        if (n > 0) {
            going.remember();
        }
        int made = 0;
        while (made < n && isOn()) {
            goBy(moveOfStep());
            made++;
        }
        return made;
    }

    public int make(int move) {
        if (!isOn()) {
            return NOT;
        }
        int turn = going.now[AT];
        if (!isMove(turn, move)) {
            return NONE;
        }
        going.remember();
        goBy(move);
        return text.to[turn * MOVES + move];
    }

    public int learn(int man, int lesson) {
        if (!isMan(man) || lesson < 0 || lesson >= text.lessons) {
            return NONE;
        }
        int had = going.now[manCell(man, HAD)];
        int needs = text.needs[lesson];
        if ((had & 1 << lesson) != 0 || (had & needs) != needs) {
            return NOT;
        }
        going.remember();
        int hours = hoursOf(lesson, Integer.bitCount(had), skillOf(man));
        going.now[manCell(man, HAD)] = had | 1 << lesson;
        going.now[manCell(man, HOURS)] += hours;
        return hours;
    }

    public boolean undo() {
        return going.comeBack();
    }

    public boolean hold(int slot) {
        if (slot < 0 || slot >= SLOTS) {
            return false;
        }
        going.keep(slot);
        return true;
    }

    public boolean restore(int slot) {
        if (slot < 0 || slot >= SLOTS || !going.held[slot]) {
            return false;
        }
        going.goOnFrom(slot);
        return true;
    }

    // ---- how a game goes ----

    public int want(int position, int aim, int otherAim) {
        if (!isPosition(position) || !areAims(aim, otherAim)) {
            return NO_MARGIN;
        }
        byWant.look(text, aim, otherAim);
        return byWant.ends[position];
    }

    public int wants(int position, int aim, int otherAim) {
        if (!isPosition(position) || !areAims(aim, otherAim)) {
            return NONE;
        }
        byWant.look(text, aim, otherAim);
        return byWant.moves[position];
    }

    public int surely(int position, int side, int k, int man, int eye) {
        if (k < 0 || k > MOST_MARGIN || !canAskSurely(position, side, man, eye)) {
            return NONE;
        }
        return sureLosses(position, side, man, eye) >> k & 1;
    }

    public int loses(int position, int side, int man, int eye) {
        return canAskSurely(position, side, man, eye) ? sureLosses(position, side, man, eye) : NONE;
    }

    public int seen(int position, int move, int man, int eye, int so) {
        if (!isMove(position, move) || !isMan(man) || !isMan(eye) || so < 0 || so > MOST_SEEN) {
            return NONE;
        }
        return isSeen(position * MOVES + move, man, eye, so) ? 1 : 0;
    }

    public int cup(boolean failed) {
        if (text.men == 0) {
            return NONE;
        }
        int best = NOT;
        int most = 0;
        for (int man = 0; man < text.men; man++) {
            int games = going.now[manCell(man, failed ? FAILED : LOST)];
            if (games > most) {
                most = games;
                best = man;
            }
        }
        return best;
    }

    public int likely(int position, int one, int other, int aims, int margin, boolean below) {
        if (!canAskLikely(position, one, other, aims) || margin < -MOST_MARGIN || margin > MOST_MARGIN) {
            return NONE;
        }
        lookAtChances(position, one, other, aims);
        return lessened(chances.ends[margin + MOST_MARGIN], Chances.SURE, below);
    }

    public int most(int position, int one, int other, int aims) {
        if (!canAskLikely(position, one, other, aims)) {
            return NO_MARGIN;
        }
        lookAtChances(position, one, other, aims);
        return chances.likeliest() - MOST_MARGIN;
    }

    // ---- lessons, courts, dice, markers ----

    public int order(int i) {
        if (i < NONE || i >= text.lessons) {
            return NONE;
        }
        for (int lesson = 0; lesson < text.lessons; lesson++) {
            choice.needs[lesson] = text.needs[lesson];
            for (int had = 0; had < text.lessons; had++) {
                choice.cost[had * Choice.ITEMS + lesson] = hoursOf(lesson, had, 0);
            }
        }
        choice.look(text.lessons, text.lessons);
        return i == NONE ? choice.least[0] : choice.pick(i);
    }

    public int courts(int i) {
        if (i < NONE || i >= text.courts) {
            return NONE;
        }
        if (text.courts > text.men) {
            return NOT;
        }
        for (int man = 0; man < text.men; man++) {
            choice.needs[man] = 0;
            for (int court = 0; court < text.courts; court++) {
                int suits = text.laws.suiting(skillOf(man), text.eye[man], text.pride[court]);
                // the most together is the least of what is turned about in sign
                choice.cost[court * Choice.ITEMS + man] = -heldToLimits(suits);
            }
        }
        choice.look(text.courts, text.men);
        return i == NONE ? -choice.least[0] : choice.pick(i);
    }

    public int less(int die, int other, boolean below) {
        if (!isDie(die) || !isDie(other)) {
            return NONE;
        }
        return lessened(text.lower[die * DICE + other], FACES * FACES, below);
    }

    public int reply(int die) {
        return isDie(die) ? bestReply(die) : NONE;
    }

    public int rests(int i) {
        if (i < NONE) {
            return NONE;
        }
        int found = 0;
        for (int one = 0; one < text.dice; one++) {
            for (int other = 0; other < text.dice; other++) {
                if (isBestReply(one, other) && isBestReply(other, one)) {
                    if (found == i) {
                        return 10 * one + other;
                    }
                    found++;
                }
            }
        }
        return i == NONE ? found : NONE;
    }

    public int fine() {
        for (int margin = 0; margin <= MOST_MARGIN; margin++) {
            paid[margin] = text.laws.payment(margin);
        }
        long least = 0;
        for (int is = 0; is <= MOST_MARGIN; is++) {
            for (int says = 0; says <= MOST_MARGIN; says++) {
                int off = Math.abs(says - is);
                long gain = paid[says] - paid[is];
                if (off > 0 && gain > least * off) {
                    least = (gain + off - 1) / off;
                }
            }
        }
        return least > MOST_HELD ? NOT : (int) least;
    }

    public int pays(int margin) {
        return margin < 0 || margin > MOST_MARGIN ? NO_AMOUNT : text.laws.payment(margin);
    }

    // ---- whether he meant it ----

    public int tell(int man, int position, int move) {
        if (told >= TELLINGS || !isMan(man) || !isMove(position, move)) {
            return NONE;
        }
        toldMan[told] = man;
        toldTurn[told] = position;
        toldMove[told] = move;
        told++;
        return told - 1;
    }

    public int forget() {
        int were = told;
        told = 0;
        return were;
    }

    public int meant(int man, int k, boolean below) {
        if (!isMan(man) || k < 0 || k > told) {
            return NONE;
        }
        long losing = weightOfKnown(man, k, TO_LOSE);
        long both = losing + weightOfKnown(man, k, TO_WIN);
        return both == 0 ? NOT : lessened(losing, both, below);
    }

    public int set() {
        int best = NOT;
        int farthest = -1;
        for (int turn = 0; turn < text.positions; turn++) {
            if (isTurn(turn)) {
                int side = text.side[turn];
                byWant.lookAgainstWinner(text, side, TO_WIN);
                int move = byWant.moves[turn];
                int end = byWant.ends[turn];
                byWant.lookAgainstWinner(text, side, TO_LOSE);
                int apart = Math.abs(byWant.ends[turn] - end);
                if (byWant.moves[turn] != move && apart > farthest) {
                    farthest = apart;
                    best = turn;
                }
            }
        }
        return best;
    }

    // ---- what there is ----

    private boolean isPosition(int position) {
        return position >= 0 && position < text.positions;
    }

    private boolean isTurn(int position) {
        return isPosition(position) && text.side[position] != NOT;
    }

    private boolean isMove(int position, int move) {
        return isPosition(position) && move >= 0 && move < text.moves[position];
    }

    private boolean isMan(int man) {
        return man >= 0 && man < text.men;
    }

    private boolean isDie(int die) {
        return die >= 0 && die < text.dice;
    }

    private boolean isOn() {
        return going.now[AT] != NOT;
    }

    private static boolean areAims(int aim, int otherAim) {
        return aim >= 0 && aim < AIMS && otherAim >= 0 && otherAim < AIMS;
    }

    private boolean canAskSurely(int position, int side, int man, int eye) {
        if (!isPosition(position) || side < 0 || side > 1) {
            return false;
        }
        return eye == NONE || isMan(eye) && isMan(man);
    }

    private boolean canAskLikely(int position, int one, int other, int aims) {
        return isPosition(position) && isMan(one) && isMan(other) && aims >= 0 && areAims(aims / 10, aims % 10);
    }

    private static int manCell(int man, int cell) {
        return MEN_CELLS + man * MAN_CELLS + cell;
    }

    private int skillOf(int man) {
        return Math.min(FULL_SKILL, text.skill[man] + Integer.bitCount(going.now[manCell(man, HAD)]));
    }

    private int hoursOf(int lesson, int had, int skill) {
        return heldToLimits(text.laws.learning(text.hours[lesson], had, lesson, skill));
    }

    private static int heldToLimits(int amount) {
        return Math.max(0, Math.min(MOST_HELD, amount));
    }

    private boolean isSeen(int moveCell, int man, int eye, int so) {
        return text.laws.seeing(text.shows[moveCell], text.eye[eye], skillOf(man), so) > 0;
    }

    // ---- a step ----

    private static int stirred(int h, int by) {
        int mixed = (h ^ by) * 1103515245 + 12345;
        return mixed ^ mixed >>> 15;
    }

    private int lot(int which, int n) {
        int h = stirred(stirred(text.seed, 71), which);
        return n > 0 ? (h >>> 1) % n : 0;
    }

    private int moveOfStep() {
        int[] now = going.now;
        int turn = now[AT];
        int which = 32 * now[STEPS];
        if (lot(which, FULL_SKILL) < skillOf(now[FIRST_MAN + text.side[turn]])) {
            byWant.look(text, now[FIRST_AIM], now[FIRST_AIM + 1]);
            return byWant.moves[turn];
        }
        return lot(which + 1, text.moves[turn]);
    }

    private void goBy(int move) {
        int[] now = going.now;
        int turn = now[AT];
        int side = text.side[turn];
        int cell = turn * MOVES + move;
        if (isSeen(cell, now[FIRST_MAN + side], now[FIRST_MAN + 1 - side], now[FIRST_SEEN + side])) {
            now[FIRST_SEEN + side]++;
        }
        now[AT] = text.to[cell];
        now[STEPS]++;
        if (!isTurn(now[AT])) {
            int margin = text.margin[now[AT]];
            endFor(0, margin);
            endFor(1, -margin);
            now[OVER]++;
            now[AT] = NOT;
        }
    }

    private void endFor(int side, int margin) {
        int[] now = going.now;
        int man = now[FIRST_MAN + side];
        now[manCell(man, BALANCE)] += margin;
        now[manCell(man, GAMES)]++;
        if (margin < 0) {
            now[manCell(man, LOST)]++;
            if (now[FIRST_SEEN + side] > 0) {
                now[manCell(man, FAILED)]++;
            }
        }
    }

    // ---- what would be ----

    /** The bits of all k; POSITIONS move only to those told ahead, so one way up the numbers is enough. */
    private int sureLosses(int position, int side, int man, int eye) {
        for (int at = 0; at <= position; at++) {
            if (text.side[at] == NOT) {
                int loss = side == 0 ? -text.margin[at] : text.margin[at];
                sure[at] = loss >= 0 ? 1 << loss : 0;
            } else if (text.side[at] == side) {
                sure[at] = sureByOwnMove(at, man, eye);
            } else {
                sure[at] = sureByAnyMove(at);
            }
        }
        return sure[position];
    }

    private int sureByOwnMove(int turn, int man, int eye) {
        int bits = 0;
        for (int move = 0; move < text.moves[turn]; move++) {
            int cell = turn * MOVES + move;
            if (eye == NONE || !isSeen(cell, man, eye, 0)) {
                bits |= sure[text.to[cell]];
            }
        }
        return bits;
    }

    private int sureByAnyMove(int turn) {
        int bits = -1;
        for (int move = 0; move < text.moves[turn]; move++) {
            bits &= sure[text.to[turn * MOVES + move]];
        }
        return bits;
    }

    private void lookAtChances(int position, int one, int other, int aims) {
        byWant.look(text, aims / 10, aims % 10);
        chances.look(text, byWant, position, skillOf(one), skillOf(other));
    }

    private long weightOfKnown(int man, int k, int aim) {
        long weight = 1;
        for (int i = 0; i < k; i++) {
            if (toldMan[i] == man) {
                int turn = toldTurn[i];
                byWant.lookAgainstWinner(text, text.side[turn], aim);
                weight *= Chances.weight(text.moves[turn], toldMove[i] == byWant.moves[turn], skillOf(man));
            }
        }
        return weight;
    }

    private int bestReply(int die) {
        int best = 0;
        for (int one = 1; one < text.dice; one++) {
            if (text.lower[one * DICE + die] > text.lower[best * DICE + die]) {
                best = one;
            }
        }
        return best;
    }

    private boolean isBestReply(int one, int other) {
        return text.lower[one * DICE + other] == text.lower[bestReply(other) * DICE + other];
    }

    /** One of the two numbers of a fraction that cannot be lessened; 0 is 0 by 1. */
    private static int lessened(long part, long whole, boolean below) {
        long a = whole;
        long b = part;
        for (int i = 0; i < 200 && b > 0; i++) {
            long rest = a % b;
            a = b;
            b = rest;
        }
        return a > 0 ? (int) ((below ? whole : part) / a) : 0;
    }

    /** The tape, and the TOKENS on it up to the first that is none, or one too many. */
    private static final class Tokens {
        static final int END = 0;
        static final int TURN = 1;
        static final int MAN = 2;
        static final int LESSON = 3;
        static final int COURT = 4;
        static final int DIE = 5;
        static final int SEES = 6;
        static final int LEARNS = 7;
        static final int SUITS = 8;
        static final int PAYS = 9;
        static final int SEED = 10;
        static final int IF = 11;
        static final int THEN = 12;
        static final int ELSE = 13;
        static final int FIRST_VAR = 14;
        static final int NAME = 23;
        static final int INT = 24;
        static final int SEMICOLON = 25;
        static final int EQUALS = 26;
        static final int PLUS = 27;
        static final int MINUS = 28;
        static final int TIMES = 29;
        static final int DIVIDED = 30;
        static final int LESS = 31;
        static final int OPEN = 32;
        static final int CLOSE = 33;
        static final int NO_TOKEN = 34;
        static final int STOP = 35;

        /* In the order of the kinds above; the nine VARS stand last. */
        private static final String WORDS =
            "end turn man lesson court die sees learns suits pays seed if then else shows eye skill hours had which pride margin seen";
        private static final String SIGNS = ";=+-*/<()";
        private static final int LETTERS = 8;
        private static final int DIGITS = 4;

        final byte[] tape = new byte[TAPE];
        final int[] kinds = new int[TOKENS + 1];
        final int[] places = new int[TOKENS + 1];
        final long[] values = new long[TOKENS + 1];
        private final long[] words = new long[NAME];
        int length;

        Tokens() {
            int word = 0;
            for (int i = 0; i < WORDS.length(); i++) {
                char sign = WORDS.charAt(i);
                if (sign == ' ') {
                    word++;
                } else if (word < NAME) {
                    words[word] = withLetter(words[word], sign);
                }
            }
        }

        void addFour(int bytes) {
            for (int shift = 24; shift >= 0; shift -= 8) {
                if (length < TAPE) {
                    tape[length] = (byte) (bytes >> shift);
                    length++;
                }
            }
        }

        void split() {
            int from = 0;
            boolean more = true;
            for (int i = 0; i <= TOKENS && more; i++) {
                from = behindBlanks(from);
                places[i] = from;
                values[i] = 0;
                from = splitOne(i, from);
                more = kinds[i] < NO_TOKEN;
            }
        }

        private int behindBlanks(int from) {
            int at = from;
            while (at < length && isBlank(tape[at])) {
                at++;
            }
            return at;
        }

        private int splitOne(int i, int from) {
            if (from >= length) {
                kinds[i] = STOP;
                return from;
            }
            if (isLetter(tape[from])) {
                return splitWord(i, from);
            }
            if (isDigit(tape[from])) {
                return splitNumber(i, from);
            }
            int sign = SIGNS.indexOf((char) (tape[from] & 255));
            kinds[i] = sign < 0 ? NO_TOKEN : SEMICOLON + sign;
            return from + 1;
        }

        private int splitWord(int i, int from) {
            int at = from;
            while (at < length && isLetter(tape[at])) {
                values[i] = withLetter(values[i], tape[at]);
                at++;
            }
            kinds[i] = at - from > LETTERS ? NO_TOKEN : kindOfWord(values[i]);
            return at;
        }

        private int kindOfWord(long letters) {
            for (int word = 0; word < NAME; word++) {
                if (words[word] == letters) {
                    return word;
                }
            }
            return NAME;
        }

        private int splitNumber(int i, int from) {
            int at = from;
            while (at < length && isDigit(tape[at])) {
                values[i] = values[i] * 10 + tape[at] - '0';
                at++;
            }
            kinds[i] = at - from > DIGITS ? NO_TOKEN : INT;
            return at;
        }

        private static long withLetter(long letters, int letter) {
            return letters * 32 + letter - 'a' + 1;
        }

        private static boolean isBlank(int sign) {
            return sign == 9 || sign == 10 || sign == 13 || sign == 32;
        }

        private static boolean isLetter(int sign) {
            return sign >= 'a' && sign <= 'z';
        }

        private static boolean isDigit(int sign) {
            return sign >= '0' && sign <= '9';
        }
    }

    /** Reads TOKENS into a Text, and finds the FAULT. */
    private static final class Reader {
        private static final int SYNTAX = 1;
        private static final int ROOM = 2;
        private static final int TWICE = 3;
        private static final int NO_NAME = 4;
        private static final int WRONG = 5;
        private static final int TOO_DEEP = 6;

        private static final int OF_POSITION = 0;
        private static final int OF_MAN = 1;
        private static final int OF_LESSON = 2;
        private static final int OF_COURT = 3;
        private static final int OF_DIE = 4;

        final Tokens tokens = new Tokens();
        private final long[] names = new long[NAMES];
        private final int[] sorts = new int[NAMES];
        private final int[] numbers = new int[NAMES];
        private final int[] waiting = new int[3 * (NESTED + 1)];
        private int waits;
        private int known;
        private Text text;
        private int next;
        private int fault;
        int faultPlace = NONE;
        private int laterFault;
        private int laterPlace;

        int readAll(Text into) {
            text = into;
            text.clear();
            known = 0;
            next = 0;
            fault = 0;
            faultPlace = NONE;
            laterFault = 0;
            laterPlace = NONE;
            for (int i = 0; i <= TOKENS && fault == 0 && kind() != Tokens.STOP; i++) {
                readTell(kind());
            }
            if (fault == 0) {
                fault = laterFault;
                faultPlace = laterPlace;
            }
            if (fault == 0) {
                text.compareDice();
            }
            return fault;
        }

        private void readTell(int kind) {
            switch (kind) {
                case Tokens.END:
                    readEnd();
                    break;
                case Tokens.TURN:
                    readTurn();
                    break;
                case Tokens.MAN:
                    readMan();
                    break;
                case Tokens.LESSON:
                    readLesson();
                    break;
                case Tokens.COURT:
                    readCourt();
                    break;
                case Tokens.DIE:
                    readDie();
                    break;
                case Tokens.SEES:
                case Tokens.LEARNS:
                case Tokens.SUITS:
                case Tokens.PAYS:
                    readLaw(kind);
                    break;
                case Tokens.SEED:
                    take(kind);
                    text.seed = takeInt(0, 9999);
                    take(Tokens.SEMICOLON);
                    break;
                default:
                    stop(SYNTAX);
            }
        }

        private void readEnd() {
            if (!opens(Tokens.END, text.positions, POSITIONS)) {
                return;
            }
            long name = takeNewName();
            boolean minus = kind() == Tokens.MINUS && take(Tokens.MINUS);
            int margin = takeInt(0, MOST_MARGIN);
            take(Tokens.SEMICOLON);
            int number = text.positions;
            text.side[number] = NOT;
            text.margin[number] = minus ? -margin : margin;
            text.moves[number] = 0;
            text.deep[number] = 0;
            text.positions++;
            know(name, OF_POSITION, number);
        }

        private void readTurn() {
            if (!opens(Tokens.TURN, text.positions, POSITIONS)) {
                return;
            }
            int namePlace = here();
            long name = takeNewName();
            int turn = text.positions;
            text.side[turn] = takeInt(0, 1);
            text.margin[turn] = 0;
            text.moves[turn] = 0;
            text.deep[turn] = 0;
            for (int i = 0; i <= MOVES && kind() == Tokens.NAME; i++) {
                if (i == MOVES) {
                    stop(ROOM);
                } else {
                    readMove(turn, i);
                }
            }
            take(Tokens.SEMICOLON);
            if (text.moves[turn] == 0) {
                note(WRONG, namePlace);
            }
            if (text.deep[turn] > DEEPEST) {
                note(TOO_DEEP, namePlace);
            }
            text.positions++;
            know(name, OF_POSITION, turn);
        }

        private void readMove(int turn, int move) {
            int to = takeKnown(OF_POSITION);
            int cell = turn * MOVES + move;
            text.shows[cell] = takeInt(0, 9);
            text.to[cell] = Math.max(0, to);
            text.moves[turn] = move + 1;
            if (to != NONE) {
                text.deep[turn] = Math.max(text.deep[turn], text.deep[to] + 1);
            }
        }

        private void readMan() {
            if (!opens(Tokens.MAN, text.men, MEN)) {
                return;
            }
            long name = takeNewName();
            text.skill[text.men] = takeInt(0, FULL_SKILL);
            text.eye[text.men] = takeInt(0, 9);
            take(Tokens.SEMICOLON);
            know(name, OF_MAN, text.men);
            text.men++;
        }

        private void readLesson() {
            if (!opens(Tokens.LESSON, text.lessons, LESSONS)) {
                return;
            }
            long name = takeNewName();
            int needs = 0;
            text.hours[text.lessons] = takeInt(1, 99);
            for (int i = 0; i <= TOKENS && kind() == Tokens.NAME; i++) {
                int needPlace = here();
                int lesson = takeKnown(OF_LESSON);
                int bit = lesson == NONE ? 0 : 1 << lesson;
                if ((needs & bit) != 0) {
                    note(TWICE, needPlace);
                }
                needs |= bit;
            }
            take(Tokens.SEMICOLON);
            text.needs[text.lessons] = needs;
            know(name, OF_LESSON, text.lessons);
            text.lessons++;
        }

        private void readCourt() {
            if (!opens(Tokens.COURT, text.courts, COURTS)) {
                return;
            }
            long name = takeNewName();
            text.pride[text.courts] = takeInt(0, 9);
            take(Tokens.SEMICOLON);
            know(name, OF_COURT, text.courts);
            text.courts++;
        }

        private void readDie() {
            if (!opens(Tokens.DIE, text.dice, DICE)) {
                return;
            }
            long name = takeNewName();
            for (int i = 0; i < FACES; i++) {
                text.faces[text.dice * FACES + i] = takeInt(0, 9);
            }
            take(Tokens.SEMICOLON);
            know(name, OF_DIE, text.dice);
            text.dice++;
        }

        private void readLaw(int kind) {
            int start = text.laws.length;
            take(kind);
            take(Tokens.EQUALS);
            for (int i = 0; i <= IFS && kind() == Tokens.IF; i++) {
                if (i == IFS) {
                    stop(ROOM);
                }
                take(Tokens.IF);
                readSum();
                take(Tokens.LESS);
                readSum();
                text.laws.write(Laws.UNLESS);
                int target = text.laws.length;
                text.laws.write(0);
                take(Tokens.THEN);
                readSum();
                text.laws.write(Laws.ANSWER);
                take(Tokens.ELSE);
                text.laws.aimAtNext(target);
            }
            readSum();
            text.laws.write(Laws.ANSWER);
            take(Tokens.SEMICOLON);
            text.laws.starts[kind - Tokens.SEES] = start;
        }

        /** An E: the signs that wait for what stands right of them are kept aside, so nothing calls itself. */
        private void readSum() {
            waits = 0;
            int open = 0;
            boolean unitIsDue = true;
            for (int i = 0; i <= TOKENS && fault == 0; i++) {
                int kind = kind();
                if (unitIsDue && kind == Tokens.OPEN) {
                    if (open == NESTED) {
                        stop(ROOM);
                    }
                    open++;
                    keepAside(kind);
                } else if (unitIsDue) {
                    readUnit(kind);
                    unitIsDue = false;
                } else if (kind >= Tokens.PLUS && kind <= Tokens.DIVIDED) {
                    writeWaiting(kind >= Tokens.TIMES ? Tokens.TIMES : Tokens.PLUS);
                    keepAside(kind);
                    unitIsDue = true;
                } else if (kind == Tokens.CLOSE && open > 0) {
                    writeWaiting(Tokens.PLUS);
                    waits--;
                    open--;
                    take(kind);
                } else {
                    if (open > 0) {
                        stop(SYNTAX);
                    }
                    writeWaiting(Tokens.PLUS);
                    return;
                }
            }
        }

        private void readUnit(int kind) {
            if (kind == Tokens.INT) {
                text.laws.write((int) tokens.values[next]);
                take(kind);
            } else if (kind >= Tokens.FIRST_VAR && kind < Tokens.NAME) {
                text.laws.write(Laws.FIRST_VAR - (kind - Tokens.FIRST_VAR));
                take(kind);
            } else {
                stop(SYNTAX);
            }
        }

        private void keepAside(int kind) {
            if (take(kind) && waits < waiting.length) {
                waiting[waits] = kind;
                waits++;
            }
        }

        /** The waiting signs that bind at least as the given one does go out, up to the latest '('. */
        private void writeWaiting(int weakest) {
            while (waits > 0 && waiting[waits - 1] >= weakest && waiting[waits - 1] != Tokens.OPEN) {
                waits--;
                text.laws.write(Laws.ADD - (waiting[waits] - Tokens.PLUS));
            }
        }

        /** The kind of the next TOKEN; behind a FAULT there is none. */
        private int kind() {
            return fault == 0 ? tokens.kinds[next] : Tokens.NO_TOKEN;
        }

        private int here() {
            return tokens.places[next];
        }

        private boolean take(int kind) {
            if (kind() != kind) {
                stop(SYNTAX);
                return false;
            }
            if (next >= TOKENS) {
                stop(ROOM);
                return false;
            }
            next++;
            return true;
        }

        private boolean opens(int kind, int there, int room) {
            if (there >= room) {
                stop(ROOM);
                return false;
            }
            return take(kind);
        }

        private int takeInt(int least, int most) {
            int at = next;
            if (!take(Tokens.INT)) {
                return 0;
            }
            int number = (int) tokens.values[at];
            if (number < least || number > most) {
                note(WRONG, tokens.places[at]);
            }
            return number;
        }

        private long takeNewName() {
            int at = next;
            if (!take(Tokens.NAME)) {
                return 0;
            }
            if (indexOf(tokens.values[at]) != NONE) {
                note(TWICE, tokens.places[at]);
            }
            return tokens.values[at];
        }

        private int takeKnown(int sort) {
            int at = next;
            if (!take(Tokens.NAME)) {
                return NONE;
            }
            int index = indexOf(tokens.values[at]);
            if (index == NONE || sorts[index] != sort) {
                note(NO_NAME, tokens.places[at]);
                return NONE;
            }
            return numbers[index];
        }

        private int indexOf(long name) {
            for (int i = 0; i < known; i++) {
                if (names[i] == name) {
                    return i;
                }
            }
            return NONE;
        }

        private void know(long name, int sort, int number) {
            if (known < NAMES) {
                names[known] = name;
                sorts[known] = sort;
                numbers[known] = number;
                known++;
            }
        }

        /** A FAULT behind which nothing is read: the first one found is the first by its place. */
        private void stop(int number) {
            if (fault == 0) {
                fault = number;
                faultPlace = tokens.places[next];
            }
        }

        /** A FAULT that counts only if there is none of SYNTAX and ROOM in the whole text. */
        private void note(int number, int place) {
            boolean first = laterFault == 0 || place < laterPlace;
            if (first || place == laterPlace && number < laterFault) {
                laterFault = number;
                laterPlace = place;
            }
        }
    }

    /** What a text tells. */
    private static final class Text {
        final int[] side = new int[POSITIONS];
        final int[] margin = new int[POSITIONS];
        final int[] moves = new int[POSITIONS];
        final int[] deep = new int[POSITIONS];
        final int[] to = new int[POSITIONS * MOVES];
        final int[] shows = new int[POSITIONS * MOVES];
        final int[] skill = new int[MEN];
        final int[] eye = new int[MEN];
        final int[] hours = new int[LESSONS];
        final int[] needs = new int[LESSONS];
        final int[] pride = new int[COURTS];
        final int[] faces = new int[DICE * FACES];
        /* By how many of the 36 throws one DIE shows less than another one. */
        final int[] lower = new int[DICE * DICE];
        final Laws laws = new Laws();
        int positions;
        int men;
        int lessons;
        int courts;
        int dice;
        int seed;

        void clear() {
            positions = 0;
            men = 0;
            lessons = 0;
            courts = 0;
            dice = 0;
            seed = 0;
            laws.clear();
        }

        void compareDice() {
            for (int one = 0; one < dice; one++) {
                for (int other = 0; other < dice; other++) {
                    lower[one * DICE + other] = throwsLower(one, other);
                }
            }
        }

        private int throwsLower(int one, int other) {
            int lowerOnes = 0;
            for (int i = 0; i < FACES; i++) {
                for (int j = 0; j < FACES; j++) {
                    if (faces[one * FACES + i] < faces[other * FACES + j]) {
                        lowerOnes++;
                    }
                }
            }
            return lowerOnes;
        }
    }

    /** The four LAWS, as rows of marks for a stack: a number from 0 on is itself, what is below 0 does something. */
    private static final class Laws {
        static final int FIRST_VAR = -1;
        static final int ADD = -10;
        static final int SUBTRACT = -11;
        static final int MULTIPLY = -12;
        static final int DIVIDE = -13;
        static final int UNLESS = -14;
        static final int ANSWER = -15;

        private static final int SEES = 0;
        private static final int LEARNS = 1;
        private static final int SUITS = 2;
        private static final int PAYS = 3;
        private static final int ALL = 4;

        private static final int SHOWS = 0;
        private static final int EYE = 1;
        private static final int SKILL = 2;
        private static final int HOURS = 3;
        private static final int HAD = 4;
        private static final int WHICH = 5;
        private static final int PRIDE = 6;
        private static final int MARGIN = 7;
        private static final int SEEN = 8;
        private static final int VARS = 9;

        /* A LAW writes fewer marks than it has TOKENS; the four that hold if none is told have two each. */
        private static final int MARKS = TOKENS + 2 * ALL;
        private static final int STACK = 2 * (NESTED + 1) + 2;

        private final int[] marks = new int[MARKS];
        private final int[] vars = new int[VARS];
        private final int[] stack = new int[STACK];
        final int[] starts = new int[ALL];
        int length;

        void clear() {
            length = 0;
            writeShort(SEES, 0);
            writeShort(LEARNS, FIRST_VAR - HOURS);
            writeShort(SUITS, FIRST_VAR - SKILL);
            writeShort(PAYS, FIRST_VAR - MARGIN);
        }

        private void writeShort(int law, int mark) {
            starts[law] = length;
            write(mark);
            write(ANSWER);
        }

        void write(int mark) {
            if (length < MARKS) {
                marks[length] = mark;
                length++;
            }
        }

        /** What an UNLESS goes on with is what is written next. */
        void aimAtNext(int target) {
            if (target >= 0 && target < MARKS) {
                marks[target] = length;
            }
        }

        int seeing(int shows, int eye, int skill, int seen) {
            Arrays.fill(vars, 0);
            vars[SHOWS] = shows;
            vars[EYE] = eye;
            vars[SKILL] = skill;
            vars[SEEN] = seen;
            return value(SEES);
        }

        int learning(int hours, int had, int which, int skill) {
            Arrays.fill(vars, 0);
            vars[HOURS] = hours;
            vars[HAD] = had;
            vars[WHICH] = which;
            vars[SKILL] = skill;
            return value(LEARNS);
        }

        int suiting(int skill, int eye, int pride) {
            Arrays.fill(vars, 0);
            vars[SKILL] = skill;
            vars[EYE] = eye;
            vars[PRIDE] = pride;
            return value(SUITS);
        }

        int payment(int margin) {
            Arrays.fill(vars, 0);
            vars[MARGIN] = margin;
            return value(PAYS);
        }

        private int value(int law) {
            int at = starts[law];
            int height = 0;
            for (int i = 0; i < MARKS && at >= 0 && at < length - 1 && marks[at] != ANSWER; i++) {
                int mark = marks[at];
                at++;
                if (mark > ADD) {
                    if (height >= STACK) {
                        return 0;
                    }
                    stack[height] = mark < 0 ? vars[FIRST_VAR - mark] : mark;
                    height++;
                } else {
                    if (height < 2) {
                        return 0;
                    }
                    int left = stack[height - 2];
                    int right = stack[height - 1];
                    if (mark == UNLESS) {
                        height -= 2;
                        at = left < right ? at + 1 : marks[at];
                    } else if (mark == DIVIDE && right == 0) {
                        return 0;
                    } else {
                        height--;
                        stack[height - 1] = joined(mark, left, right);
                    }
                }
            }
            return height > 0 ? stack[height - 1] : 0;
        }

        private static int joined(int mark, int left, int right) {
            switch (mark) {
                case ADD:
                    return left + right;
                case SUBTRACT:
                    return left - right;
                case MULTIPLY:
                    return left * right;
                default:
                    return right == 0 ? 0 : left / right;
            }
        }
    }

    /** What goes on, what it was before the last things done, and what SLOTS hold of it. */
    private static final class Going {
        final int[] now = new int[CELLS];
        final boolean[] held = new boolean[SLOTS];
        private final int[] past = new int[PAST * CELLS];
        private final int[] slots = new int[SLOTS * CELLS];
        private int nextPast;
        int pasts;

        void clear() {
            Arrays.fill(now, 0);
            now[AT] = NOT;
            pasts = 0;
            for (int i = 0; i < SLOTS; i++) {
                held[i] = false;
            }
        }

        void remember() {
            System.arraycopy(now, 0, past, nextPast * CELLS, CELLS);
            nextPast = (nextPast + 1) % PAST;
            pasts = Math.min(PAST, pasts + 1);
        }

        boolean comeBack() {
            if (pasts == 0) {
                return false;
            }
            nextPast = (nextPast + PAST - 1) % PAST;
            pasts--;
            System.arraycopy(past, nextPast * CELLS, now, 0, CELLS);
            return true;
        }

        void keep(int slot) {
            System.arraycopy(now, 0, slots, slot * CELLS, CELLS);
            held[slot] = true;
        }

        void goOnFrom(int slot) {
            System.arraycopy(slots, slot * CELLS, now, 0, CELLS);
            pasts = 0;
        }

        int heldSlots() {
            int sum = 0;
            for (int i = 0; i < SLOTS; i++) {
                sum += held[i] ? 1 : 0;
            }
            return sum;
        }
    }

    /** How games go BY WANT from every POSITION, by two AIMS. */
    private static final class Wants {
        private static final int BY_ONE = 2;

        final int[] ends = new int[POSITIONS];
        final int[] moves = new int[POSITIONS];

        /** POSITIONS move only to those told ahead, so one way up the numbers is enough. */
        void look(Text text, int aim, int otherAim) {
            for (int at = 0; at < text.positions; at++) {
                if (text.side[at] == NOT) {
                    ends[at] = text.margin[at];
                    moves[at] = NOT;
                } else {
                    choose(text, at, text.side[at] == 0 ? aim : otherAim);
                }
            }
        }

        void lookAgainstWinner(Text text, int side, int aim) {
            look(text, side == 0 ? aim : TO_WIN, side == 0 ? TO_WIN : aim);
        }

        private void choose(Text text, int turn, int aim) {
            int best = 0;
            for (int move = 1; move < text.moves[turn]; move++) {
                if (liking(text, turn, move, aim) > liking(text, turn, best, aim)) {
                    best = move;
                }
            }
            moves[turn] = best;
            ends[turn] = ends[text.to[turn * MOVES + best]];
        }

        private int liking(Text text, int turn, int move, int aim) {
            int end = ends[text.to[turn * MOVES + move]];
            int own = text.side[turn] == 0 ? end : -end;
            if (aim == BY_ONE) {
                return -Math.abs(own + 1);
            }
            return aim == TO_LOSE ? -own : own;
        }
    }

    /** How likely each MARGIN is, in parts of SURE: 60 parts for each step, as 10 times 1, 2 or 3 MOVES go into 60. */
    private static final class Chances {
        static final long SURE = 777600000L;
        private static final int PARTS = 60;

        final long[] ends = new long[2 * MOST_MARGIN + 1];
        private final long[] reached = new long[POSITIONS];

        /** Down the numbers all that leads to a POSITION is there before it is left. */
        void look(Text text, Wants wants, int position, int skill, int otherSkill) {
            Arrays.fill(ends, 0);
            Arrays.fill(reached, 0);
            reached[position] = SURE;
            for (int at = position; at >= 0; at--) {
                if (text.side[at] == NOT) {
                    ends[text.margin[at] + MOST_MARGIN] += reached[at];
                } else {
                    leave(text, at, wants.moves[at], text.side[at] == 0 ? skill : otherSkill);
                }
            }
        }

        private void leave(Text text, int turn, int wanted, int skill) {
            for (int move = 0; move < text.moves[turn]; move++) {
                int to = text.to[turn * MOVES + move];
                reached[to] += reached[turn] / PARTS * weight(text.moves[turn], move == wanted, skill);
            }
        }

        int likeliest() {
            int best = 0;
            for (int i = 1; i < ends.length; i++) {
                if (ends[i] > ends[best]) {
                    best = i;
                }
            }
            return best;
        }

        /** How many of 60 parts a MOVE has. */
        static int weight(int moves, boolean isWanted, int skill) {
            int slip = moves > 0 ? (FULL_SKILL - skill) * 6 / moves : 0;
            return isWanted ? slip + skill * 6 : slip;
        }
    }

    /** For each step another item, behind those that it needs, so that the costs together are least. */
    private static final class Choice {
        static final int ITEMS = 6;
        private static final int FAR = 1000000;

        /* Of an item at a step: cost[step * ITEMS + item]. */
        final int[] cost = new int[ITEMS * ITEMS];
        final int[] needs = new int[ITEMS];
        /* The least that can still come, by the bits of the items that are taken. */
        final int[] least = new int[1 << ITEMS];
        private int items;

        void look(int steps, int itemsThere) {
            items = Math.min(ITEMS, itemsThere);
            for (int taken = (1 << items) - 1; taken >= 0; taken--) {
                int step = Integer.bitCount(taken);
                least[taken] = step >= steps ? 0 : costOf(taken, step, firstBest(taken, step));
            }
        }

        int pick(int step) {
            int taken = 0;
            for (int i = 0; i < step; i++) {
                taken |= 1 << firstBest(taken, i);
            }
            return firstBest(taken, step);
        }

        private int firstBest(int taken, int step) {
            int best = 0;
            for (int item = 1; item < items; item++) {
                if (costOf(taken, step, item) < costOf(taken, step, best)) {
                    best = item;
                }
            }
            return best;
        }

        private int costOf(int taken, int step, int item) {
            boolean free = (taken & 1 << item) == 0 && (taken & needs[item]) == needs[item];
            return free ? cost[step * ITEMS + item] + least[taken | 1 << item] : FAR;
        }
    }
}
