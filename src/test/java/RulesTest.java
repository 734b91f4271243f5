import java.lang.management.ManagementFactory;
import java.lang.reflect.Constructor;
import java.lang.reflect.Field;
import java.lang.reflect.Method;
import java.lang.reflect.Modifier;
import java.nio.charset.StandardCharsets;
import java.nio.file.Files;
import java.nio.file.Path;
import java.util.ArrayList;
import java.util.Arrays;
import java.util.List;
import java.util.Map;
import java.util.Set;
import java.util.TreeMap;
import java.util.TreeSet;
import java.util.regex.Matcher;
import java.util.regex.Pattern;

/** The document's face, the rules of the language that can be seen from outside, and the room that calls take. */
public final class RulesTest {
    private static final String FACE = "int feed(int,int,int,int,int) int table(int) int fault() int where() int person(int,int) "
        + "int name(int,int) int left() int seen(int) int calls(int) int namer() int dish() int share(int) int nameWith(int) "
        + "int guestFor(int) int namerIn(int) int dishIn(int) int hungerIn(int,int) int leftIn(int) int livingIn(int) "
        + "int hungriestIn(int) int unevenIn(int) int deadIn(int) int eats(int,int) int says(int,int) int firstDish(int) "
        + "int named(int) int worthIn(int) int fastsFor(int,int) int fastsAt(int,int) int bestFast() int bestWorth() int tables() "
        + "int tablesWorth() int bowlFor(int) int fits() int fitAt(int) int could() int surely() int ask() int askLeaves() "
        + "int judge() int takes(int,boolean,boolean,boolean) int rests(int) int rest(int) long odds(int,int,boolean) "
        + "long mean(int,boolean) int drawn(int,int) int day() int bid(int) int give(int,int) int pour(int) int value(int,int) "
        + "boolean undo() int image() boolean back(int) int led(int) int size(int) int trouble()";
    private static final String[] FORBIDDEN = {"->", "::", "\\bfinally\\b", "\\bsynchronized\\b", "\\bassert\\b", "Exact\\b",
        "getMessage", "\\bprotected\\b", "\\bpackage\\b", "\\bcatch\\b", "\\btry\\b", "\\bObject\\b", "\\bvar\\b", "System\\.(?!arraycopy)",
        "Math\\.(?!max|min|abs)", "Integer\\.(?!bitCount|MAX_VALUE|MIN_VALUE)", "Arrays\\.(?!fill|copyOf)", "\\bhashCode\\b",
        "\\bequals\\b", "\\btoString\\b", "static \\{", "[^\\x00-\\x7f]", "\\bfloat\\b", "\\bdouble\\b"};

    private static final Due DUE = new Due();

    public static void main(String[] args) throws Exception {
        face();
        members();
        text(Files.readString(Path.of(System.getProperty("main", "src/main/java/LeanTable.java")), StandardCharsets.UTF_8));
        room();
        DUE.end("RulesTest");
    }

    private static void face() throws Exception {
        DUE.part("the face");
        TreeSet<String> want = new TreeSet<>(Arrays.asList(FACE.split(" (?=int |long |boolean )")));
        TreeSet<String> got = new TreeSet<>();
        for (Method m : LeanTable.class.getDeclaredMethods()) {
            if (!Modifier.isPrivate(m.getModifiers())) {
                List<String> types = new ArrayList<>();
                for (Class<?> c : m.getParameterTypes()) {
                    types.add(c.getName());
                }
                got.add(m.getReturnType() + " " + m.getName() + "(" + String.join(",", types) + ")");
                DUE.is("modifiers of " + m, m.getModifiers(), Modifier.PUBLIC);
            }
        }
        DUE.is("methods", got.size(), 59 - 1);
        DUE.yes("the document's methods and no others: " + got, got.equals(want));
        Constructor<?>[] made = LeanTable.class.getDeclaredConstructors();
        DUE.is("constructors", made.length, 1);
        DUE.is("its parameters", made[0].getParameterCount(), 0);
        DUE.yes("it is public", Modifier.isPublic(made[0].getModifiers()));
        DUE.is("the class", LeanTable.class.getModifiers(), Modifier.PUBLIC | Modifier.FINAL);
        Class<?>[] thrown = LeanTable.class.getMethod("led", int.class).getExceptionTypes();
        DUE.yes("led tells its exception", thrown.length == 1 && thrown[0] == java.util.NoSuchElementException.class);
    }

    private static void members() {
        DUE.part("rules 1, 2, 5, 11");
        TreeSet<String> names = new TreeSet<>();
        for (Method m : LeanTable.class.getDeclaredMethods()) {
            if (Modifier.isPublic(m.getModifiers())) {
                names.add(m.getName());
            }
        }
        List<Class<?>> classes = new ArrayList<>(Arrays.asList(LeanTable.class.getDeclaredClasses()));
        DUE.yes("at most twelve classes", classes.size() + 1 <= 12);
        classes.add(LeanTable.class);
        for (Class<?> c : classes) {
            boolean outer = c == LeanTable.class;
            DUE.yes(c + " is static", outer || Modifier.isStatic(c.getModifiers()));
            int fields = 0;
            for (Field f : c.getDeclaredFields()) {
                boolean isStatic = Modifier.isStatic(f.getModifiers());
                fields += isStatic ? 0 : 1;
                DUE.yes(f + " is final", !isStatic || Modifier.isFinal(f.getModifiers()));
                DUE.yes(f + " is private", !outer || f.getName().equals("NONE") == Modifier.isPublic(f.getModifiers()));
            }
            DUE.yes(c + " has few fields", fields <= 20);
            for (Method m : c.getDeclaredMethods()) {
                DUE.yes(m + " has few parameters", m.getParameterCount() <= 7);
                DUE.yes(m + " has a name of its own", outer && Modifier.isPublic(m.getModifiers()) || !names.contains(m.getName()));
            }
        }
    }

    private static void text(String text) {
        DUE.part("rules 3, 4, 6, 8, 10, 11");
        String code = text.replaceAll("(?s)/\\*.*?\\*/", "").replaceAll("//[^\n]*", "");
        for (String f : FORBIDDEN) {
            Matcher m = Pattern.compile(f).matcher(code);
            DUE.no("the text has " + f, m.find());
        }
        Matcher imports = Pattern.compile("import ([^;]*);").matcher(code);
        while (imports.find()) {
            DUE.yes("import " + imports.group(1), imports.group(1).matches("java\\.util\\.(Arrays|NoSuchElementException)"));
        }
        Matcher thrown = Pattern.compile("throw ([^;]*);").matcher(code);
        while (thrown.find()) {
            DUE.yes("throw " + thrown.group(1), thrown.group(1).equals("new NoSuchElementException()"));
        }
        methods(code);
    }

    /** Bodies by headers: a header and the brace that closes its body stand equally far in. */
    private static void methods(String code) {
        Pattern method = Pattern.compile("(?ms)^( +)((?:[a-zA-Z\\[\\]]+ )*)([a-zA-Z]+)\\([^()]*\\)(?: throws [a-zA-Z]+)? \\{\n(.*?)^\\1\\}$");
        Map<String, Set<String>> called = new TreeMap<>();
        for (Matcher m = method.matcher(code); m.find();) {
            called.put(m.group(3), new TreeSet<>());
        }
        DUE.yes("methods are found: " + called.size(), called.size() > 100);
        for (Matcher m = method.matcher(code); m.find();) {
            String name = m.group(3);
            DUE.yes("rule 11: " + name + " has at most sixty lines", m.group(4).split("\n").length <= 60);
            for (String other : called.keySet()) {
                if (Pattern.compile("\\b" + other + "\\(").matcher(m.group(4)).find()) {
                    called.get(name).add(other);
                }
            }
            boolean callsItself = called.get(name).remove(name);
            DUE.yes("rule 8: " + name + " is private and static if it calls itself", !callsItself || m.group(2).startsWith("private static "));
        }
        for (String name : called.keySet()) {
            DUE.yes("rule 11: " + name + " leads at most eight calls deep", depth(called, name, 0) <= 8);
        }
    }

    /** Methods of one name in several classes count as one: more deep than it is, never less. */
    private static int depth(Map<String, Set<String>> called, String name, int above) {
        int most = above + 1;
        for (String other : called.get(name)) {
            most = Math.max(most, above > 20 ? above : depth(called, other, above + 1));
        }
        return most;
    }

    /** Rows are made with the object; calls make none. */
    private static void room() {
        DUE.part("room");
        com.sun.management.ThreadMXBean bean = (com.sun.management.ThreadMXBean) ManagementFactory.getThreadMXBean();
        String text = "table bowl 20 starve 200 flinch 50;person a poet hunger 1 need 1;person b child hunger 1 need 1;"
            + "person c plain hunger 1 need 1;person d plain hunger 1 need 1;person e plain hunger 1 need 1;"
            + "name n from 0 worth 1;name m from 200 worth 1;unsure a 3;unsure b 4;unsure c 5;unsure d 6;heard n day 60";
        everyCall(Due.lay(text));
        long before = bean.getCurrentThreadAllocatedBytes();
        LeanTable x = new LeanTable();
        long made = bean.getCurrentThreadAllocatedBytes() - before;
        DUE.yes("an object takes little room: " + made, made < 40_000);
        Due.tell(x, text);
        before = bean.getCurrentThreadAllocatedBytes();
        everyCall(x);
        long room = bean.getCurrentThreadAllocatedBytes() - before;
        DUE.yes("calls take no room: " + room, room < 4_000);
    }

    private static void everyCall(LeanTable x) {
        for (int i = 0; i < 3; i++) {
            x.feed(1, 2, 3, 4, 5);
            x.table(20);
            x.fastsFor(1, 3);
            x.fastsAt(0, 3);
            x.bestFast();
            x.tables();
            x.bowlFor(60);
            x.fits();
            x.fitAt(3);
            x.ask();
            x.odds(0, 6, true);
            x.mean(6, false);
            x.drawn(7, 60);
            x.worthIn(60);
            x.guestFor(1);
            x.bid(0);
            x.day();
            x.undo();
            x.image();
            x.back(0);
            x.rest(3);
        }
    }
}
