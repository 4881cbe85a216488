import java.lang.reflect.Constructor;
import java.lang.reflect.Field;
import java.lang.reflect.Method;
import java.lang.reflect.Modifier;
import java.nio.file.Files;
import java.nio.file.Path;
import java.util.ArrayList;
import java.util.List;
import java.util.Set;
import java.util.TreeSet;
import java.util.regex.Matcher;
import java.util.regex.Pattern;

/** What can be looked at of LANGUAGE.md's rules: the face, and words that may not stand in the class. */
public final class RulesTest {
    private static final String[] FACE = {"feed(int,int,int,int,int)int", "back(int)int", "read()int", "place()int",
        "position(int,int)int", "move(int,int,boolean)int", "man(int,int)int", "game(int)int",
        "begin(int,int,int,int,int)boolean", "steps(int)int", "make(int)int", "learn(int,int)int", "undo()boolean",
        "want(int,int,int)int", "wants(int,int,int)int", "surely(int,int,int,int,int)int", "loses(int,int,int,int)int",
        "seen(int,int,int,int,int)int", "cup(boolean)int", "likely(int,int,int,int,int,boolean)int",
        "most(int,int,int,int)int", "order(int)int", "courts(int)int", "less(int,int,boolean)int", "reply(int)int",
        "rests(int)int", "fine()int", "pays(int)int", "tell(int,int,int)int", "forget()int", "meant(int,int,boolean)int",
        "set()int", "hold(int)boolean", "restore(int)boolean", "count(int)int"};

    private static int wrong;

    private RulesTest() {
    }

    private static void say(boolean isGood, String what) {
        if (!isGood) {
            wrong++;
            System.out.println(what);
        }
    }

    public static void main(String[] args) throws Exception {
        face();
        members();
        source(Files.readString(Path.of("src/main/java/SchoolLosing.java")));
        System.out.println(wrong == 0 ? "all rules are kept" : wrong + " rules are not kept");
        if (wrong != 0) {
            System.exit(1);
        }
    }

    private static void face() {
        Set<String> due = new TreeSet<>(List.of(FACE));
        Set<String> got = new TreeSet<>();
        for (Method method : SchoolLosing.class.getDeclaredMethods()) {
            if (!Modifier.isPrivate(method.getModifiers())) {
                List<String> types = new ArrayList<>();
                for (Class<?> type : method.getParameterTypes()) {
                    types.add(type.getName());
                }
                got.add(method.getName() + "(" + String.join(",", types) + ")" + method.getReturnType().getName());
                say(Modifier.isPublic(method.getModifiers()), method + " is not public");
            }
        }
        say(got.equals(due), "the face is " + got);
        say(Modifier.isFinal(SchoolLosing.class.getModifiers()), "the class is not final");
        Constructor<?>[] constructors = SchoolLosing.class.getDeclaredConstructors();
        say(constructors.length == 1 && Modifier.isPublic(constructors[0].getModifiers()), "the constructor");
        for (Field field : SchoolLosing.class.getDeclaredFields()) {
            boolean isNone = field.getName().equals("NONE");
            say(isNone == !Modifier.isPrivate(field.getModifiers()), field + " is not as the face has it");
        }
    }

    private static void members() {
        Set<String> names = new TreeSet<>();
        for (String method : FACE) {
            names.add(method.substring(0, method.indexOf('(')));
        }
        List<Class<?>> classes = new ArrayList<>(List.of(SchoolLosing.class.getDeclaredClasses()));
        say(classes.size() <= 11, "too many classes");
        for (Class<?> inside : classes) {
            say(Modifier.isStatic(inside.getModifiers()), inside + " is not static");
            for (Constructor<?> constructor : inside.getDeclaredConstructors()) {
                // rule 12: a constructor hands out nothing of the object that it makes
                say(constructor.getParameterCount() == 0, constructor + " is handed something");
            }
            for (Method method : inside.getDeclaredMethods()) {
                say(!names.contains(method.getName()), method + " bears the name of a public one");
            }
        }
        classes.add(SchoolLosing.class);
        for (Class<?> one : classes) {
            int fields = 0;
            for (Field field : one.getDeclaredFields()) {
                if (Modifier.isStatic(field.getModifiers())) {
                    say(Modifier.isFinal(field.getModifiers()), field + " is not final");
                } else {
                    fields++;
                }
            }
            say(fields <= 20, one + " has " + fields + " fields");
            for (Method method : one.getDeclaredMethods()) {
                say(method.getParameterCount() <= 7, method + " has too many parameters");
                boolean isFace = one == SchoolLosing.class && Modifier.isPublic(method.getModifiers());
                say(isFace || !names.contains(method.getName()), method + " bears the name of a public one");
            }
        }
    }

    private static void source(String source) {
        String code = source.replaceAll("(?s)/\\*.*?\\*/", "").replaceAll("//[^\n]*", "");
        String bare = code.replaceAll("\"[^\"]*\"", "\"\"");
        for (String word : new String[] {"throw", "throws", "try", "catch", "synchronized", "assert", "var", "package",
            "volatile", "native", "equals", "hashCode", "toString", "Object", "Random", "Thread", "currentTimeMillis",
            "nanoTime", "Exact", "protected", "yield", "goto"}) {
            say(!Pattern.compile("\\b" + word + "\\b").matcher(bare).find(), "'" + word + "' stands in the class");
        }
        say(!bare.contains("->"), "a lambda");
        say(!bare.contains("::"), "a method reference");
        say(!Pattern.compile("\"\\s*\\+|\\+\\s*\"").matcher(bare).find(), "texts joined by +");
        say(!Pattern.compile("\\bstatic\\s*\\{").matcher(bare).find(), "a static initialiser");
        Matcher imports = Pattern.compile("import ([^;]*);").matcher(bare);
        while (imports.find()) {
            say(Set.of("java.util.Arrays", "java.util.ArrayList", "java.util.List").contains(imports.group(1)),
                imports.group());
        }
        for (char sign : source.toCharArray()) {
            say(sign < 128, "a sign beyond 127: " + sign);
        }
        int from = -1;
        String[] lines = source.split("\n");
        for (int i = 0; i < lines.length; i++) {
            if (lines[i].matches(" {4,8}[a-zA-Z][^;=]*\\) \\{")) {
                from = i;
            }
            if (from >= 0 && lines[i].matches(" {4,8}\\}")) {
                say(i - from <= 60, "a long method at line " + (from + 1));
                from = -1;
            }
        }
    }
}
