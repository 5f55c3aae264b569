import java.lang.reflect.Constructor;
import java.lang.reflect.Field;
import java.lang.reflect.Method;
import java.lang.reflect.Modifier;
import java.nio.file.Files;
import java.nio.file.Path;
import java.util.Set;
import java.util.TreeSet;
import java.util.regex.Matcher;
import java.util.regex.Pattern;

/** The face as the document has it, and those rules of LANGUAGE.md that a look at the source can tell. */
public final class FaceTest {
    private static final String[] FACE = {
        "boolean cell(int,int,int,int,int,boolean)", "int tie(int,int,int)", "int hour(int)",
        "boolean rise(int,int)", "boolean summer(int,int)", "boolean keep(int,int)", "boolean part(int,int)",
        "int feed(int,int,int,int,int)", "int end(int)", "int text()", "int fault(int)", "boolean by(int)",
        "int off(int,int,int,int)", "int pays(int,int)", "int judge(int)", "int best(int,boolean,int)",
        "int held(int,boolean)", "int cut(boolean,int)", "int many(int,boolean,int)", "int one(int)",
        "int loses(int,int)", "int free(int)", "int pull(int,int,int)", "int when(int)", "int stop(int,int,int)",
        "int clock(int,int)", "int early(int)", "int years(int,boolean)", "int both(int)", "int image()",
        "int back()", "int about(int)"};

    private static final String[] RULED_OUT = {
        "\\bthrow\\b", "\\btry\\b", "\\bcatch\\b", "\\bsynchronized\\b", "\\bassert\\b", "->", "::",
        "\\bimport\\b", "\\bpackage\\b", "\\bstatic\\s*\\{", "\\bprotected\\b", "Exact\\b", "\\bnative\\b",
        "\\b(equals|hashCode|toString)\\s*\\(", "\\bSystem\\.(?!arraycopy\\b)", "\\bThread\\b", "\\bRandom\\b"};

    /** Rule 4, as far as a name with a point in it tells; of Long and Integer the functions, not the constants. */
    private static final Set<String> LISTED = Set.of(
        "System.arraycopy(", "Arrays.copyOf(", "Arrays.copyOfRange(", "Arrays.fill(", "Math.abs(", "Math.max(",
        "Math.min(", "Math.floorDiv(", "Math.floorMod(", "Integer.bitCount(", "Integer.compare(", "Long.compare(");

    private static final int MOST_LINES = 60;

    private final Due due = new Due();

    private static String types(Class<?>[] of) {
        StringBuilder all = new StringBuilder();
        for (Class<?> c : of) {
            all.append(all.length() == 0 ? "" : ",").append(c.getName());
        }
        return all.toString();
    }

    private void face() {
        Set<String> wanted = new TreeSet<>(Set.of(FACE));
        Set<String> names = new TreeSet<>();
        Set<String> found = new TreeSet<>();
        for (Method m : HourLines.class.getDeclaredMethods()) {
            if (!Modifier.isPrivate(m.getModifiers())) {
                found.add(m.getReturnType() + " " + m.getName() + "(" + types(m.getParameterTypes()) + ")");
                names.add(m.getName());
                due.holds(m + " is public and no static", Modifier.isPublic(m.getModifiers())
                        && !Modifier.isStatic(m.getModifiers()));
            }
        }
        due.holds("the methods are those of the face: " + found, found.equals(wanted));
        Constructor<?>[] made = HourLines.class.getDeclaredConstructors();
        due.holds("one constructor, public, of (int, int)", made.length == 1
                && Modifier.isPublic(made[0].getModifiers()) && types(made[0].getParameterTypes()).equals("int,int"));
        for (Field f : HourLines.class.getDeclaredFields()) {
            boolean constant = f.getName().equals("NONE") && f.getType() == int.class
                    && f.getModifiers() == (Modifier.PUBLIC | Modifier.STATIC | Modifier.FINAL);
            due.holds(f + " is NONE or private", constant || Modifier.isPrivate(f.getModifiers()));
        }
        due.is("NONE", HourLines.NONE, -1);
        due.holds("the class is public and final",
                HourLines.class.getModifiers() == (Modifier.PUBLIC | Modifier.FINAL));
        inside(names);
    }

    private void inside(Set<String> names) {
        due.holds("twelve classes at most", HourLines.class.getDeclaredClasses().length + 1 <= 12);
        privates(HourLines.class, names);
        for (Class<?> c : HourLines.class.getDeclaredClasses()) {
            due.holds(c + " is static and private", Modifier.isStatic(c.getModifiers())
                    && Modifier.isPrivate(c.getModifiers()));
            privates(c, names);
        }
    }

    private void privates(Class<?> c, Set<String> names) {
        int fields = 0;
        for (Field f : c.getDeclaredFields()) {
            if (Modifier.isStatic(f.getModifiers())) {
                due.holds(f + " is a constant", Modifier.isFinal(f.getModifiers())
                        && f.getType().getName().matches("int|long|boolean|char|java.lang.String|\\[[IJCB]"));
            } else {
                fields++;
            }
        }
        due.holds(c + " has twenty fields at most", fields <= 20);
        for (Method m : c.getDeclaredMethods()) {
            due.holds(m + " has seven parameters at most", m.getParameterCount() <= 7);
            if (Modifier.isPrivate(m.getModifiers())) {
                due.holds(m + " bears no public name", !names.contains(m.getName()));
            }
        }
    }

    /** Without comments and without what stands in quotes. */
    private static String bare(String source) {
        String plain = source.replaceAll("(?s)/\\*.*?\\*/", " ").replaceAll("//[^\n]*", " ");
        return plain.replaceAll("\"[^\"\n]*\"", "TEXT").replaceAll("'.'", "SIGN");
    }

    private void rules() throws Exception {
        String source = Files.readString(Path.of(System.getProperty("source", "src/main/java/HourLines.java")));
        String bare = bare(source);
        for (String rule : RULED_OUT) {
            Matcher m = Pattern.compile(rule).matcher(bare);
            due.holds("the source has no " + rule, !m.find());
        }
        library(bare);
        lengths(bare);
        due.holds("no text is joined by +", !Pattern.compile("TEXT\\s*\\+|\\+\\s*TEXT").matcher(bare).find());
        for (int i = 0; i < source.length(); i++) {
            if (source.charAt(i) > 126) {
                due.holds("a plain sign at " + i, false);
            }
        }
    }

    private void library(String bare) {
        Set<String> own = new TreeSet<>();
        for (Class<?> c : HourLines.class.getDeclaredClasses()) {
            own.add(c.getSimpleName());
        }
        Matcher m = Pattern.compile("\\b([A-Z][a-z]\\w*)\\s*\\.\\s*(\\w+)\\s*(\\(?)").matcher(bare);
        while (m.find()) {
            String used = m.group(1) + "." + m.group(2) + m.group(3);
            due.holds(used + " is of the file or of the library's list",
                    own.contains(m.group(1)) || LISTED.contains(used));
        }
    }

    /** A method begins and ends at one indent: four blanks, or eight in a class inside. */
    private void lengths(String bare) {
        String[] lines = bare.split("\n");
        for (int i = 0; i < lines.length; i++) {
            Matcher m = Pattern.compile("( {4}| {8})(private|public) (?!.*\\bclass\\b)[^=;]*\\(.*").matcher(lines[i]);
            if (m.matches()) {
                int last = i;
                while (last < lines.length && !lines[last].equals(m.group(1) + "}")) {
                    last++;
                }
                due.holds("short, from its first line to its last: " + lines[i].trim(), last - i < MOST_LINES);
            }
        }
    }

    public static void main(String[] args) throws Exception {
        FaceTest test = new FaceTest();
        test.face();
        test.rules();
        test.due.end();
    }
}
