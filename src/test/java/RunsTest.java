import java.util.ArrayList;
import java.util.List;
import java.util.Random;

/** Runs of calls by chance (always the same ones), each answer held against the Model's. */
public final class RunsTest {
    private static final int CALLS = 512;

    private final Random by;
    private final Texts texts;
    private final HourLines x;
    private final Model m;
    private final int mostTies;
    private final List<String> told = new ArrayList<>();

    private RunsTest(long seed, int w, int h, int mostTies) {
        by = new Random(seed);
        texts = new Texts(by);
        x = new HourLines(w, h);
        m = new Model(w, h);
        this.mostTies = mostTies;
        told.add("seed " + seed + ": new HourLines(" + w + ", " + h + ")");
    }

    private boolean chance(int percent) {
        return by.nextInt(100) < percent;
    }

    /** Mostly from least to most, at times its ends, beside it, or far off. */
    private int some(int least, int most) {
        int kind = by.nextInt(60);
        switch (kind) {
            case 0: return least - 1;
            case 1: return most + 1;
            case 2: return least;
            case 3: return most;
            case 4: return by.nextInt(4) == 0 ? by.nextInt() : least;
            case 5: return by.nextInt(4) == 0 ? Integer.MIN_VALUE : most;
            default: return least + by.nextInt(Math.max(1, most - least + 1));
        }
    }

    private int someCell() {
        return some(0, m.n - 1);
    }

    private int someHour() {
        return some(0, m.about(2) - 1);
    }

    private int someHourOrNone() {
        return chance(60) ? -1 : someHour();
    }

    private boolean same(String call, long got, long want) {
        told.add(call + " = " + want);
        if (got == want) {
            return true;
        }
        for (String line : told) {
            System.out.println(line);
        }
        System.out.println("but " + call + " answered " + got + ", due is " + want);
        return false;
    }

    private boolean same(String call, boolean got, boolean want) {
        return same(call, got ? 1 : 0, want ? 1 : 0);
    }

    private boolean tellTexts() {
        String text = texts.next();
        boolean fine = true;
        if (chance(90)) {
            fine = same("end(0)", x.end(0), m.end(0));
        }
        for (int at = 0; at < text.length() && fine; at += 20) {
            int[] five = new int[5];
            for (int i = 0; i < 20; i++) {
                five[i / 4] = five[i / 4] << 8 | (at + i < text.length() ? text.charAt(at + i) & 255 : 0);
            }
            String call = "feed(" + five[0] + ", " + five[1] + ", " + five[2] + ", " + five[3] + ", " + five[4] + ")";
            fine = same(call, x.feed(five[0], five[1], five[2], five[3], five[4]),
                    m.feed(five[0], five[1], five[2], five[3], five[4]));
        }
        int n = chance(95) ? text.length() : some(0, 300);
        fine = fine && same("end(" + n + ")", x.end(n), m.end(n));
        fine = fine && same("text() of [" + text + "]", x.text(), m.text());
        fine = fine && same("fault(0)", x.fault(0), m.fault(0)) && same("fault(1)", x.fault(1), m.fault(1));
        if (fine && chance(70)) {
            int t = m.about(4) - 1;
            fine = same("by(" + t + ")", x.by(t), m.by(t));
        }
        return fine;
    }

    private boolean change() {
        int a = someCell();
        switch (by.nextInt(16)) {
            case 0:
            case 1:
            case 2:
            case 3: {
                int sun = chance(50) ? some(0, 300) : some(0, 60);
                int people = chance(50) ? some(0, 999) : some(0, 12);
                int state = some(0, 5);
                int begin = some(0, 900);
                boolean town = chance(50);
                return same("cell(" + a + ", " + sun + ", " + people + ", " + state + ", " + begin + ", " + town + ")",
                        x.cell(a, sun, people, state, begin, town), m.cell(a, sun, people, state, begin, town));
            }
            case 4:
            case 5:
            case 6: {
                if (m.ties() >= mostTies) {
                    return true;
                }
                int b = someCell();
                int weight = some(1, 99);
                return same("tie(" + a + ", " + b + ", " + weight + ")", x.tie(a, b, weight), m.tie(a, b, weight));
            }
            case 7: {
                int offset = chance(50) ? some(0, 300) : some(0, 80);
                return same("hour(" + offset + ")", x.hour(offset), m.hour(offset));
            }
            case 8: {
                int month = some(0, 11);
                int v = some(0, 720);
                return same("rise(" + month + ", " + v + ")", x.rise(month, v), m.rise(month, v));
            }
            case 9: {
                int from = chance(20) ? -1 : some(0, 11);
                int to = some(0, 11);
                return same("summer(" + from + ", " + to + ")", x.summer(from, to), m.summer(from, to));
            }
            case 10: {
                int hour = someHourOrNone();
                return same("keep(" + a + ", " + hour + ")", x.keep(a, hour), m.keep(a, hour));
            }
            case 11:
            case 12: {
                int hour = someHour();
                return same("part(" + a + ", " + hour + ")", x.part(a, hour), m.part(a, hour));
            }
            case 13: {
                int train = some(0, 5);
                int minutes = chance(70) ? some(1, 60) : some(1, 999);
                return same("stop(" + train + ", " + a + ", " + minutes + ")",
                        x.stop(train, a, minutes), m.stop(train, a, minutes));
            }
            case 14: {
                int t = some(-1, m.about(4) - 1);
                return same("by(" + t + ")", x.by(t), m.by(t));
            }
            default:
                return tellTexts();
        }
    }

    private boolean askBest() {
        boolean whole = chance(50);
        int a = someCell();
        switch (by.nextInt(4)) {
            case 0: {
                int set = chance(50) ? (1 << m.about(2)) - 1 : some(1, (1 << m.about(2)) - 1);
                int cell = chance(30) ? -1 : a;
                return same("best(" + set + ", " + whole + ", " + cell + ")",
                        x.best(set, whole, cell), m.best(set, whole, cell));
            }
            case 1:
                return same("held(" + a + ", " + whole + ")", x.held(a, whole), m.held(a, whole));
            case 2: {
                int i = some(-1, 4);
                return same("cut(" + whole + ", " + i + ")", x.cut(whole, i), m.cut(whole, i));
            }
            default: {
                int k = some(1, m.about(2));
                int what = some(0, 2);
                return same("many(" + k + ", " + whole + ", " + what + ")",
                        x.many(k, whole, what), m.many(k, whole, what));
            }
        }
    }

    private boolean askTrains() {
        int train = some(0, 5);
        if (chance(40)) {
            return same("early(" + train + ")", x.early(train), m.early(train));
        }
        int k = some(0, 11);
        return same("clock(" + train + ", " + k + ")", x.clock(train, k), m.clock(train, k));
    }

    private boolean ask() {
        int a = someCell();
        int hour = someHour();
        int what = some(0, 2);
        switch (by.nextInt(13)) {
            case 0: {
                int month = some(0, 11);
                return same("off(" + a + ", " + hour + ", " + month + ", " + what + ")",
                        x.off(a, hour, month, what), m.off(a, hour, month, what));
            }
            case 1:
            case 2:
                return same("pays(" + a + ", " + hour + ")", x.pays(a, hour), m.pays(a, hour));
            case 3: {
                int w = some(0, 5);
                return same("judge(" + w + ")", x.judge(w), m.judge(w));
            }
            case 4:
                return same("one(" + what + ")", x.one(what), m.one(what));
            case 5:
                return same("loses(" + hour + ", " + what + ")", x.loses(hour, what), m.loses(hour, what));
            case 6: {
                int w = chance(40) ? some(0, 1) : 10 + a;
                return same("free(" + w + ")", x.free(w), m.free(w));
            }
            case 7: {
                int y = some(0, m.h - 1);
                int bits = some(0, (1 << m.w) - 1);
                return same("pull(" + a + ", " + y + ", " + bits + ")", x.pull(a, y, bits), m.pull(a, y, bits));
            }
            case 8:
                return chance(50) || same("when(" + what + ")", x.when(what), m.when(what));
            case 9:
                return same("both(" + a + ")", x.both(a), m.both(a));
            case 10: {
                int[] from = {0, 10, 40, 70};
                int w = chance(30) ? some(0, 8) : from[by.nextInt(4)] + a;
                return same("about(" + w + ")", x.about(w), m.about(w));
            }
            case 11:
                return askTrains();
            default:
                return askBest();
        }
    }

    private boolean rare() {
        switch (by.nextInt(5)) {
            case 0:
                return same("image()", x.image(), m.image());
            case 1:
                return same("back()", x.back(), m.back());
            case 2: {
                int f = some(0, 1);
                return same("fault(" + f + ")", x.fault(f), m.fault(f));
            }
            default: {
                int n = chance(85) ? some(1, 4) : some(1, 60);
                boolean anew = chance(n <= 4 ? 60 : 10);
                return same("years(" + n + ", " + anew + ")", x.years(n, anew), m.years(n, anew))
                        && same("about(40)", x.about(40), m.about(40))
                        && same("about(10)", x.about(10), m.about(10));
            }
        }
    }

    private boolean run() {
        for (int i = 0; i < CALLS; i++) {
            int kind = by.nextInt(100);
            boolean fine = kind < (i < 60 ? 80 : 30) ? change() : kind < 96 ? ask() : rare();
            if (!fine) {
                return false;
            }
        }
        return true;
    }

    public static void main(String[] args) {
        int runs = args.length > 0 ? Integer.parseInt(args[0]) : 220;
        long first = args.length > 1 ? Long.parseLong(args[1]) : 0;
        for (int i = 0; i < runs; i++) {
            long seed = first + i;
            boolean large = seed % 10 == 0;
            int w = large ? 2 + (int) (seed / 10 % 6) : 2 + (int) (seed % 2);
            int h = large ? 2 + (int) (seed / 7 % 4) : 2;
            if (!new RunsTest(seed, w, h, large ? 14 : 41).run()) {
                System.exit(1);
            }
        }
        System.out.println(runs + " runs as due");
    }
}
