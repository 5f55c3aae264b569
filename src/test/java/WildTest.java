import java.util.Random;

/** Arguments far off: no call throws, and one that is refused changes nothing. Nor does a call take much room. */
public final class WildTest {
    private static final int[] WILD = {
        Integer.MIN_VALUE, Integer.MIN_VALUE + 1, Integer.MIN_VALUE + 10, Integer.MIN_VALUE + 40, -1000000, -2, -1, 0,
        1, 2, 3, 5, 6, 9, 10, 11, 12, 23, 24, 33, 40, 63, 70, 93, 94, 299, 300, 301, 1000, 1 << 20, 1 << 30,
        Integer.MAX_VALUE - 1, Integer.MAX_VALUE};

    private final Due due = new Due();
    private final Random by = new Random(7);

    private int wild() {
        return by.nextInt(5) == 0 ? by.nextInt() : WILD[by.nextInt(WILD.length)];
    }

    /** One call by its number, with wild arguments: whether it was refused. */
    private boolean refused(HourLines x, int call) {
        int a = wild();
        int b = wild();
        int c = wild();
        boolean is = by.nextBoolean();
        switch (call) {
            case 0: return !x.cell(a, b, c, wild(), wild(), is);
            case 1: return x.tie(a, b, c) == -1;
            case 2: return x.hour(a) == -1;
            case 3: return !x.rise(a, b);
            case 4: return !x.summer(a, b);
            case 5: return !x.keep(a, b);
            case 6: return !x.part(a, b);
            case 7: return x.feed(a, b, c, wild(), wild()) == -1;
            case 8: return x.end(a) == -1;
            case 9: return !x.by(a);
            case 10: return x.stop(a, b, c) == -1;
            case 11: return x.years(a, is) == -1;
            default: return false;
        }
    }

    /** Calls that ask alone; each leaves all as it is. */
    private void ask(HourLines x) {
        boolean is = by.nextBoolean();
        x.fault(wild());
        x.off(wild(), wild(), wild(), wild());
        x.pays(wild(), wild());
        x.judge(wild());
        x.best(wild(), is, wild());
        x.held(wild(), is);
        x.cut(is, wild());
        x.many(wild(), is, wild());
        x.one(wild());
        x.loses(wild(), wild());
        x.free(wild());
        x.pull(wild(), wild(), wild());
        x.when(wild());
        x.clock(wild(), wild());
        x.early(wild());
        x.both(wild());
        x.about(wild());
    }

    private static long shown(HourLines x) {
        long sum = 0;
        for (int i = -1; i < 100; i++) {
            sum = sum * 31 + x.about(i);
        }
        for (int i = 0; i < 6; i++) {
            sum = sum * 31 + x.judge(i);
            sum = sum * 31 + x.early(i);
            for (int k = 0; k < 12; k++) {
                sum = sum * 31 + x.clock(i, k);
            }
        }
        for (int i = 0; i < 24; i++) {
            for (int k = 0; k < 4; k++) {
                sum = sum * 31 + x.pays(i, k);
                sum = sum * 31 + x.off(i, k, i % 12, 1);
            }
            sum = sum * 31 + x.pull(i, 0, 1);
        }
        return sum * 31 + x.best(15, true, -1) + x.fault(0) + x.fault(1);
    }

    private void wildCalls() {
        for (int run = 0; run < 300; run++) {
            HourLines x = new HourLines(wild(), wild());
            if (run % 3 > 0) {
                fill(x, run);
            }
            for (int i = 0; i < 60; i++) {
                long before = shown(x);
                ask(x);
                due.is("asking changes nothing", shown(x), before);
                int call = by.nextInt(12);
                if (refused(x, call)) {
                    due.is("a refused call (" + call + ") changes nothing", shown(x), before);
                }
                if (i % 20 == 0) {
                    x.text();
                    x.back();
                }
            }
        }
    }

    private void fill(HourLines x, int run) {
        Random some = new Random(run);
        int[] offsets = {10, 90, 170, 300};
        for (int i = 0; i < 1 + run % 4; i++) {
            x.hour(offsets[i]);
        }
        for (int i = 0; i < 24; i++) {
            x.cell(i, some.nextInt(301), some.nextInt(1000), some.nextInt(6), some.nextInt(901), some.nextBoolean());
            x.part(i, some.nextInt(4));
        }
        for (int i = 0; i < 40; i++) {
            x.tie(some.nextInt(24), some.nextInt(24), 1 + some.nextInt(99));
        }
        for (int i = 0; i < 72; i++) {
            x.stop(some.nextInt(6), some.nextInt(24), 1 + some.nextInt(999));
        }
        Tape.rule(x, "cost dark * away + if alone > hour ? town : people * people end / month; grow off - 50 + alone;"
                + " stay alone > 100 and people < 500 or not state # 3;");
        if (run % 2 == 0) {
            x.image();
        }
    }

    /** All calls of a run share one room: none may leave anything in it. */
    private void room() {
        com.sun.management.ThreadMXBean threads =
                (com.sun.management.ThreadMXBean) java.lang.management.ManagementFactory.getThreadMXBean();
        HourLines x = new HourLines(6, 4);
        long atFirst = threads.getCurrentThreadAllocatedBytes();
        for (int i = 0; i < 10; i++) {
            x = new HourLines(6, 4);
        }
        long eachNew = (threads.getCurrentThreadAllocatedBytes() - atFirst) / 10;
        due.holds("a new object takes 60000 bytes at most: " + eachNew, eachNew <= 60000);
        fill(x, 3);
        for (int round = 0; round < 2; round++) {
            long before = threads.getCurrentThreadAllocatedBytes();
            for (int i = 0; i < 20; i++) {
                x.feed(1668248436, 540093440, 0, 0, 0);
                x.end(7);
                x.text();
                allCalls(x);
            }
            long taken = threads.getCurrentThreadAllocatedBytes() - before;
            due.holds("calls take no room: " + taken, round == 0 || taken < 4096);
        }
    }

    private static void allCalls(HourLines x) {
        x.years(5, true);
        x.best(15, false, 3);
        x.held(3, true);
        x.cut(false, 0);
        x.many(3, false, 2);
        x.free(0);
        x.when(2);
        x.pull(0, 0, 1);
        x.both(1);
        x.judge(3);
        x.loses(1, 1);
        x.one(0);
        x.image();
        x.back();
    }

    public static void main(String[] args) {
        WildTest test = new WildTest();
        test.wildCalls();
        test.room();
        test.due.end();
    }
}
