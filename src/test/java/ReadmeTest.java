import java.lang.reflect.Method;
import java.lang.reflect.Modifier;
import java.net.URL;
import java.net.URLClassLoader;
import java.nio.file.DirectoryStream;
import java.nio.file.Files;
import java.nio.file.Path;
import java.util.regex.Matcher;
import java.util.regex.Pattern;
import javax.tools.ToolProvider;

/** README.md: its lines of Java compile and do what they say, and no call and no test is left out of its tables. */
public final class ReadmeTest {
    private final Due due = new Due();
    private final Path page;
    private final String words;

    private ReadmeTest(Path page) throws Exception {
        this.page = page;
        words = Files.readString(page);
    }

    private void tables() throws Exception {
        for (Method m : HourLines.class.getDeclaredMethods()) {
            if (Modifier.isPublic(m.getModifiers())) {
                due.holds("the page names " + m.getName(), Pattern.compile(
                        "(?m)^\\| .*`" + m.getName() + "`.*\\| .*\\|$").matcher(words).find());
            }
        }
        Path tests = page.resolveSibling("src").resolve("test").resolve("java");
        try (DirectoryStream<Path> all = Files.newDirectoryStream(tests, "*Test.java")) {
            for (Path test : all) {
                String name = test.getFileName().toString().replace(".java", "");
                due.holds("the page names " + name, words.contains("| `" + name + "` |"));
            }
        }
        due.holds("the page tells how the tests are run", words.contains("```\n.ci/run\n```"));
    }

    /** The page's lines of Java one behind the other, in a class of their own. */
    private HourLines land(Path folder) throws Exception {
        StringBuilder code = new StringBuilder("public final class Page { public static HourLines land() {\n");
        Matcher m = Pattern.compile("(?s)```java\n(.*?)```").matcher(words);
        while (m.find()) {
            code.append(m.group(1));
        }
        Path file = folder.resolve("Page.java");
        Files.writeString(file, code.append("return land; } }\n"));
        int exit = ToolProvider.getSystemJavaCompiler().run(null, null, null, "-proc:none", "-cp",
                System.getProperty("java.class.path"), "-d", folder.toString(), file.toString());
        due.is("javac of the page's lines", exit, 0);
        if (exit != 0) {
            return null;
        }
        try (URLClassLoader loader = new URLClassLoader(new URL[] {folder.toUri().toURL()})) {
            return (HourLines) loader.loadClass("Page").getMethod("land").invoke(null);
        }
    }

    private void lines() throws Exception {
        Path folder = Files.createTempDirectory("page");
        try {
            HourLines land = land(folder);
            if (land != null) {
                answers(land);
            }
        } finally {
            for (String name : new String[] {"Page.java", "Page.class"}) {
                Files.deleteIfExists(folder.resolve(name));
            }
            Files.delete(folder);
        }
    }

    private void answers(HourLines land) {
        due.is("TEXTS", land.about(4), 1);
        due.is("THE TEXT", land.about(5), 0);
        due.is("its FAULT", land.fault(0), 0);
        due.is("PAYS by THE TEXT", land.pays(1, 1), 240);
        due.is("by none", land.by(HourLines.NONE), true);
        due.is("the least PRICE", land.best(3, false, HourLines.NONE), 2400);
        due.is("cell 1's HOUR by it", land.best(3, false, 1), 1);
    }

    public static void main(String[] args) throws Exception {
        ReadmeTest test = new ReadmeTest(Path.of(System.getProperty("readme", "README.md")).toAbsolutePath());
        test.tables();
        test.lines();
        test.due.end();
    }
}
