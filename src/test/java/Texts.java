import java.nio.charset.StandardCharsets;
import java.util.ArrayList;
import java.util.List;
import java.util.Random;
import java.util.regex.Matcher;
import java.util.regex.Pattern;

/** Texts for tests: told to an object by feed() and back(), or made up by a seed. */
final class Texts {
    private static final String[] VARS =
        {"shows", "eye", "skill", "hours", "had", "which", "pride", "margin", "seen"};

    /**
     * As many of each sort as there may be: ENDS 0 .. 3, TURNS 4 .. 13 with three MOVES each, 6 MEN, 6 LESSONS that
     * need no others, 5 COURTS, 4 DICE all alike.
     */
    static final String FULL = full();

    private Texts() {
    }

    private static String full() {
        StringBuilder text = new StringBuilder("end ea 9; end eb - 9; end ec 0; end ed - 1; ");
        for (int i = 0; i < 10; i++) {
            text.append("turn t").append(name(i)).append(' ').append(i % 2).append(" ea 0 ")
                .append(i == 0 ? "eb" : "ta").append(" 9 ed 5; ");
        }
        for (int i = 0; i < 6; i++) {
            text.append("man m").append(name(i)).append(' ').append(2 * i).append(' ').append(i).append("; ");
            text.append("lesson l").append(name(i)).append(' ').append(1 + i).append("; ");
        }
        for (int i = 0; i < 5; i++) {
            text.append("court c").append(name(i)).append(' ').append(i).append("; ");
        }
        for (int i = 0; i < 4; i++) {
            text.append("die d").append(name(i)).append(" 0 1 2 3 4 9; ");
        }
        return text.toString();
    }

    /** All that can be seen of what goes on, of what is told and held, and of the tape. */
    static String picture(SchoolLosing school) {
        StringBuilder picture = new StringBuilder("place " + school.place() + " count");
        for (int what = 0; what <= 10; what++) {
            picture.append(' ').append(school.count(what));
        }
        return picture.append(goesOn(school)).toString();
    }

    /** All that a text tells, as calls on an object that nothing was done to since show it. */
    static String toldBy(SchoolLosing school) {
        StringBuilder picture = new StringBuilder("count");
        for (int what = 0; what <= 10; what++) {
            picture.append(' ').append(school.count(what));
        }
        for (int position = 0; position < school.count(0); position++) {
            picture.append(" position");
            for (int what = 0; what < 4; what++) {
                picture.append(' ').append(school.position(position, what));
            }
            for (int move = 0; move < school.position(position, 2); move++) {
                picture.append(' ').append(school.move(position, move, false)).append(' ')
                    .append(school.move(position, move, true)).append(' ').append(school.seen(position, move, 0, 0, 0));
            }
        }
        picture.append(goesOn(school)).append(" else");
        for (int i = -1; i < 6; i++) {
            picture.append(' ').append(school.order(i)).append(' ').append(school.courts(i)).append(' ')
                .append(school.rests(i)).append(' ').append(school.pays(i)).append(' ').append(school.less(0, i, true));
        }
        return picture.append(' ').append(school.set()).toString();
    }

    /** All that goes on: what undo(), hold() and restore() are about. */
    static String goesOn(SchoolLosing school) {
        StringBuilder picture = new StringBuilder(" steps " + school.count(5) + " over " + school.count(6) + " game");
        for (int what = 0; what < 7; what++) {
            picture.append(' ').append(school.game(what));
        }
        int men = school.count(1);
        for (int man = 0; man < men; man++) {
            picture.append(" man ").append(man);
            for (int what = 0; what < 8; what++) {
                picture.append(' ').append(school.man(man, what));
            }
        }
        return picture.toString();
    }

    /** The arguments of the feed() calls that bring the text, blanks behind it. */
    static List<int[]> feeds(String text) {
        byte[] bytes = text.getBytes(StandardCharsets.ISO_8859_1);
        List<int[]> feeds = new ArrayList<>();
        for (int at = 0; at < bytes.length; at += 20) {
            int[] words = new int[5];
            for (int i = 0; i < 20; i++) {
                int sign = at + i < bytes.length ? bytes[at + i] & 255 : ' ';
                words[i / 4] = words[i / 4] << 8 | sign;
            }
            feeds.add(words);
        }
        return feeds;
    }

    /** How many of the bytes that feeds() brings go back again. */
    static int tooMany(String text) {
        return (20 - text.length() % 20) % 20;
    }

    /** A text of up to 2,000 bytes is fed and read. */
    static int read(SchoolLosing school, String text) {
        for (int[] f : feeds(text)) {
            school.feed(f[0], f[1], f[2], f[3], f[4]);
        }
        school.back(tooMany(text));
        return school.read();
    }

    static SchoolLosing school(String text) {
        SchoolLosing school = new SchoolLosing();
        int fault = read(school, text);
        if (fault != 0) {
            throw new IllegalStateException("fault " + fault + " at " + school.place() + " of " + text);
        }
        return school;
    }

    // ---- made up ----

    /** Mostly without a FAULT. */
    static String madeUp(Random random) {
        StringBuilder text = new StringBuilder();
        List<String> tells = new ArrayList<>();
        games(random, tells);
        several(random, tells, 7, "man m", 2, 11, 10);
        lessons(random, tells);
        several(random, tells, random.nextInt(20) == 0 ? 7 : 6, "court c", 1, 10, 0);
        several(random, tells, 5, "die d", 6, random.nextBoolean() ? 10 : 4, 0);
        if (random.nextInt(3) > 0) {
            tells.add("seed " + random.nextInt(10000) + ";");
        }
        for (String law : new String[] {"sees", "learns", "suits", "pays", "sees", "pays"}) {
            if (random.nextInt(3) > 0) {
                tells.add(law + " = " + (random.nextBoolean() ? plainLaw(random, law) : law(random)) + ";");
            }
        }
        for (String tell : tells) {
            text.append(tell).append(random.nextInt(4) == 0 ? "" : random.nextInt(4) == 0 ? "\r\n\t" : " ");
        }
        while (text.length() > 1980) {
            text.setLength(text.lastIndexOf(";", text.length() - 2) + 1);
        }
        return text.toString();
    }

    private static void games(Random random, List<String> tells) {
        int ends = 1 + random.nextInt(5);
        int all = ends + random.nextInt(15 - ends + (random.nextInt(20) == 0 ? 1 : 0));
        int span = random.nextInt(3) == 0 ? 2 : 9;
        int[] deep = new int[all];
        for (int p = 0; p < all; p++) {
            if (p < ends) {
                tells.add("end p" + name(p) + (random.nextBoolean() ? " - " : " ") + random.nextInt(span + 1) + ";");
                continue;
            }
            StringBuilder tell = new StringBuilder("turn p" + name(p) + " " + random.nextInt(2));
            int moves = 1 + random.nextInt(3);
            for (int m = 0; m < moves; m++) {
                int to = random.nextInt(3) == 0 ? random.nextInt(p) : Math.max(0, p - 1 - random.nextInt(4));
                while (deep[to] >= 5 && random.nextInt(300) > 0) {
                    to = random.nextInt(p);
                }
                deep[p] = Math.max(deep[p], deep[to] + 1);
                tell.append(" p").append(name(to)).append(' ').append(random.nextInt(10));
            }
            tells.add(tell + ";");
        }
    }

    private static void several(Random random, List<String> tells, int bound, String head, int ints, int below,
            int secondBelow) {
        int many = random.nextInt(bound);
        for (int i = 0; i < many; i++) {
            StringBuilder tell = new StringBuilder(head + name(i));
            for (int j = 0; j < ints; j++) {
                tell.append(' ').append(random.nextInt(j == 1 && secondBelow > 0 ? secondBelow : below));
            }
            tells.add(random.nextInt(tells.size() + 1), tell + ";");
        }
    }

    private static void lessons(Random random, List<String> tells) {
        int many = random.nextInt(7);
        for (int i = 0; i < many; i++) {
            StringBuilder tell = new StringBuilder("lesson l" + name(i) + " " + (1 + random.nextInt(99)));
            for (int j = 0; j < i; j++) {
                if (random.nextInt(4) == 0) {
                    tell.append(" l").append(name(j));
                }
            }
            tells.add(tell + ";");
        }
    }

    private static String name(int i) {
        return String.valueOf((char) ('a' + i));
    }

    /** A LAW by all that is told for it, whose answers lie about the limits. */
    private static String plainLaw(Random random, String law) {
        switch (law) {
            case "sees":
                return "shows * " + random.nextInt(3) + " + eye - skill + seen * " + random.nextInt(4) + " - "
                    + random.nextInt(9);
            case "learns":
                return "hours - had * " + random.nextInt(9) + " + which * " + random.nextInt(9) + " - skill * "
                    + random.nextInt(4);
            case "suits":
                return "skill * " + random.nextInt(9) + " + eye * " + random.nextInt(5) + " - pride * "
                    + random.nextInt(9);
            default:
                return "margin * " + random.nextInt(20) + " - margin * margin * " + random.nextInt(4);
        }
    }

    static String law(Random random) {
        StringBuilder law = new StringBuilder();
        int ifs = random.nextInt(3) == 0 ? random.nextInt(5) : random.nextInt(2);
        for (int i = 0; i < ifs; i++) {
            law.append("if ").append(sum(random, 3)).append(" < ").append(sum(random, 3)).append(" then ")
                .append(sum(random, 3)).append(" else ");
        }
        return law + sum(random, 4);
    }

    private static String sum(Random random, int depth) {
        StringBuilder sum = new StringBuilder(unit(random, depth));
        int more = random.nextInt(3);
        for (int i = 0; i < more; i++) {
            sum.append(" +-*/".charAt(1 + random.nextInt(4))).append(unit(random, depth));
        }
        return sum.toString();
    }

    private static String unit(Random random, int depth) {
        int which = random.nextInt(depth > 0 ? 5 : 4);
        if (which == 4) {
            return "(" + sum(random, depth - 1) + ")";
        }
        return which == 0 ? String.valueOf(random.nextInt(random.nextInt(5) == 0 ? 10000 : 12))
            : VARS[random.nextInt(VARS.length)];
    }

    /** A text that something was done to, so that it likely has a FAULT. */
    static String spoilt(Random random, String text) {
        StringBuilder spoilt = new StringBuilder(text);
        int times = 1 + random.nextInt(3);
        for (int i = 0; i < times && spoilt.length() > 0; i++) {
            int at = random.nextInt(spoilt.length());
            String[] pieces = {"end", "turn p", "if", "(", ")", "-", "10", "99999", "abcdefghi", "pa", "la", "pb 3",
                ";", "A", "\u00e4", "\u0000", " ", "0", "shows", "2", "lesson", "man", "la la"};
            switch (random.nextInt(5)) {
                case 0:
                    spoilt.deleteCharAt(at);
                    break;
                case 1:
                    spoilt.insert(at, pieces[random.nextInt(pieces.length)]);
                    break;
                case 2: {
                    int end = Math.min(spoilt.length(), at + 1 + random.nextInt(12));
                    spoilt.insert(random.nextInt(spoilt.length()), spoilt.substring(at, end));
                    break;
                }
                case 3: {
                    int blank = spoilt.indexOf(" ", at);
                    spoilt.insert(blank < 0 ? at : blank + 1, pieces[random.nextInt(pieces.length)] + " ");
                    break;
                }
                default:
                    spoilt.setCharAt(at, spoilt.charAt(random.nextInt(spoilt.length())));
            }
        }
        if (random.nextInt(10) == 0) {
            spoilt.setLength(random.nextInt(spoilt.length() + 1));
        }
        if (spoilt.length() > 1980) {
            spoilt.setLength(1980);
        }
        return spoilt.toString();
    }

    /** A text whose NAMES and INTS were changed here and there, so that it has no FAULT of SYNTAX. */
    static String twisted(Random random, String text) {
        Matcher matcher = Pattern.compile("[a-z]+|[0-9]+|[^a-z0-9]").matcher(text);
        List<String> pieces = new ArrayList<>();
        List<String> names = new ArrayList<>();
        while (matcher.find()) {
            pieces.add(matcher.group());
            if (matcher.group().matches("[plmcd][a-z]")) {
                names.add(matcher.group());
            }
        }
        int times = 1 + random.nextInt(6);
        for (int i = 0; i < 40 * times && !pieces.isEmpty(); i += 1 + random.nextInt(40)) {
            int at = random.nextInt(pieces.size());
            String piece = pieces.get(at);
            if (piece.matches("[plmcd][a-z]")) {
                pieces.set(at, random.nextInt(4) == 0 ? "zz" : names.get(random.nextInt(names.size())));
            } else if (piece.matches("[0-9]+")) {
                pieces.set(at, String.valueOf(random.nextInt(random.nextBoolean() ? 12 : 120)));
            } else if (piece.equals(";") && at >= 4 && random.nextBoolean()) {
                repeat(random, pieces, at);
            }
        }
        return String.join("", pieces);
    }

    /** A last NEED or MOVE comes twice, or goes. */
    private static void repeat(Random random, List<String> pieces, int at) {
        boolean isNeed = pieces.get(at - 1).matches("l[a-z]");
        boolean isMove = pieces.get(at - 1).matches("[0-9]") && pieces.get(at - 3).matches("p[a-z]")
            && at >= 6 && pieces.get(at - 5).matches("[0-9]");
        int many = isNeed ? 2 : 4;
        if (!isNeed && !isMove) {
            return;
        }
        if (random.nextBoolean()) {
            pieces.addAll(at, new ArrayList<>(pieces.subList(at - many, at)));
        } else {
            pieces.subList(at - many, at).clear();
        }
    }
}
