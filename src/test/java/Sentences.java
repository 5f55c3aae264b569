import java.lang.annotation.Retention;
import java.lang.annotation.RetentionPolicy;
import java.lang.reflect.Method;
import java.util.ArrayList;
import java.util.Comparator;
import java.util.List;

/** Tests that stand each for some words of the document, with the means that they share. */
abstract class Sentences {
    static final int MIN = Integer.MIN_VALUE;
    static final int MAX = Integer.MAX_VALUE;
    static final int NO_MINUTES = -100000;
    static final int NO_WORTH = -1000000000;

    /** The words that a test holds to: their section, ": ", and the words as they stand there. */
    @Retention(RetentionPolicy.RUNTIME)
    @interface Says {
        String[] value();
    }

    final Due due = new Due();

    /** The tests of a class, by their names. */
    static List<Method> tests(Class<?> of) {
        List<Method> all = new ArrayList<>();
        for (Method m : of.getDeclaredMethods()) {
            if (m.isAnnotationPresent(Says.class)) {
                all.add(m);
            }
        }
        all.sort(Comparator.comparing(Method::getName));
        return all;
    }

    final void run() throws ReflectiveOperationException {
        for (Method m : tests(getClass())) {
            int before = due.wrong();
            m.invoke(this);
            if (due.wrong() > before) {
                System.out.println("  so " + m.getName() + " doesn't hold: "
                        + String.join(" | ", m.getAnnotation(Says.class).value()));
            }
        }
        due.end();
    }

    /** Two by two, with these hours. */
    static HourLines land(int... offsets) {
        return sized(2, 2, offsets);
    }

    static HourLines sized(int w, int h, int... offsets) {
        HourLines x = new HourLines(w, h);
        for (int offset : offsets) {
            x.hour(offset);
        }
        return x;
    }

    /** All that can be asked of an object without telling it anything, as one text. */
    static String shown(HourLines x) {
        StringBuilder all = new StringBuilder();
        for (int i = 0; i < 100; i++) {
            all.append(x.about(i)).append(' ');
        }
        for (int c = 0; c < x.about(0) * x.about(1); c++) {
            for (int k = 0; k < x.about(2); k++) {
                all.append(x.pays(c, k)).append(' ').append(x.off(c, k, 0, 0)).append(' ');
                for (int m = 0; m < 12; m++) {
                    all.append(x.off(c, k, m, 1)).append(' ');
                }
            }
            all.append(x.pull(c, 0, 1)).append(' ').append(x.free(10 + c)).append('\n');
        }
        for (int i = 0; i < 6; i++) {
            all.append(x.judge(i)).append(' ').append(x.early(i)).append(' ');
            for (int k = 0; k < 12; k++) {
                all.append(x.clock(i, k)).append(' ');
            }
        }
        all.append(x.best((1 << x.about(2)) - 1, true, -1)).append(' ');
        return all.append(x.fault(0)).append(' ').append(x.fault(1)).toString();
    }
}
