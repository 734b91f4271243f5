import java.lang.reflect.Method;
import java.nio.charset.StandardCharsets;
import java.nio.file.Files;
import java.nio.file.Path;
import java.util.ArrayList;
import java.util.Arrays;
import java.util.List;
import java.util.TreeSet;
import java.util.regex.Matcher;
import java.util.regex.Pattern;

/** What README.md shows is so: the answer behind each of its calls, and the list of all calls. */
public final class ReadmeTest {
    private static final Pattern TEXT = Pattern.compile("(?s)```text\n(.*?)```");
    private static final Pattern CALL = Pattern.compile("(?m)^x\\.(\\w+)\\(([^)]*)\\); +// (-?\\d+|true|false): ");
    private static final Pattern LISTED = Pattern.compile("`(\\w+)`");

    public static void main(String[] args) throws Exception {
        Due due = new Due();
        String page = Files.readString(Path.of(System.getProperty("root", "."), "README.md"), StandardCharsets.UTF_8);
        calls(due, page);
        listed(due, page);
        due.end("ReadmeTest");
    }

    private static void calls(Due due, String page) throws Exception {
        due.part("the calls of README.md");
        Matcher text = TEXT.matcher(page);
        due.yes("a text", text.find());
        LeanTable x = new LeanTable();
        due.is("tell(x, text)", Due.tell(x, text.group(1).replace('\n', ' ')), 3);
        int shown = 0;
        for (Matcher call = CALL.matcher(page); call.find(); shown++) {
            String want = call.group(3);
            due.is(call.group(), answer(x, call.group(1), call.group(2)), want.equals("true") ? 1 : want.equals("false") ? 0 : Long.parseLong(want));
        }
        due.is("lines with a call of x", page.lines().filter(line -> line.matches("x\\..*")).count(), shown);
        due.yes("some calls are shown", shown > 20);
    }

    private static long answer(LeanTable x, String name, String told) throws Exception {
        List<Object> values = new ArrayList<>();
        for (String one : told.isEmpty() ? new String[0] : told.split(", ")) {
            values.add(one.matches("true|false") ? (Object) Boolean.valueOf(one) : (Object) Integer.valueOf(one));
        }
        for (Method m : LeanTable.class.getMethods()) {
            if (m.getName().equals(name) && m.getDeclaringClass() == LeanTable.class) {
                Object got = m.invoke(x, values.toArray());
                return got instanceof Boolean yes ? (yes ? 1 : 0) : ((Number) got).longValue();
            }
        }
        throw new IllegalStateException(name);
    }

    private static void listed(Due due, String page) {
        due.part("the list of README.md");
        TreeSet<String> face = new TreeSet<>();
        for (Method m : LeanTable.class.getDeclaredMethods()) {
            if (java.lang.reflect.Modifier.isPublic(m.getModifiers())) {
                face.add(m.getName());
            }
        }
        List<String> names = new ArrayList<>();
        for (String line : page.split("\n")) {
            for (Matcher m = LISTED.matcher(line); line.startsWith("| ") && m.find();) {
                names.add(m.group(1));
            }
        }
        due.is("calls in the list", names.size(), face.size());
        due.yes("the list is the face: " + names, new TreeSet<>(names).equals(face));
        due.yes("no call is listed twice", names.size() == new TreeSet<>(Arrays.asList(names.toArray(new String[0]))).size());
    }
}
