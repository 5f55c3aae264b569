import java.util.Random;

/** Lands at their largest, with all the hours and ties there may be, held against the Model. */
public final class FullTest {
    private final Due due = new Due();
    private final Random by;
    private final HourLines x = new HourLines(6, 4);
    private final Model m = new Model(6, 4);

    private FullTest(long seed, boolean near) {
        by = new Random(seed);
        // All steps are of one size then, so that many partings are of like price.
        boolean even = seed % 3 == 2;
        int offset = by.nextInt(40);
        for (int i = 0; i < 4; i++) {
            due.is("hour", x.hour(offset), m.hour(offset));
            offset += even ? 12 : 1 + by.nextInt(80);
        }
        for (int i = 0; i < 24; i++) {
            int sun = by.nextInt(301);
            int people = by.nextInt(seed % 2 == 0 ? 1000 : 12);
            int state = by.nextInt(6);
            due.is("cell", x.cell(i, sun, people, state, 480, true), m.cell(i, sun, people, state, 480, true));
            int hour = by.nextInt(4);
            due.is("part", x.part(i, hour), m.part(i, hour));
        }
        for (int i = 0; i < 40; i++) {
            int one = by.nextInt(24);
            int other = near ? (one + 1 + by.nextInt(3)) % 24 : (one + 1 + by.nextInt(23)) % 24;
            int weight = 1 + by.nextInt(even ? 2 : seed % 5 == 0 ? 99 : seed % 5 < 3 ? 30 : 9);
            due.is("tie", x.tie(one, other, weight), m.tie(one, other, weight));
        }
        // Hours are liked in no order at all, by about as much as ties weigh.
        String likes = "(people + 1) * (hour * hour * 17 + hour * 29 + 5)";
        int most = even ? 5 : 97;
        String text = "cost " + likes + " - " + likes + " / " + most + " * " + most + ";";
        if (seed % 3 > 0) {
            int fed = 0;
            for (; fed < text.length(); fed += 20) {
                int[] f = new int[5];
                for (int i = 0; i < 20; i++) {
                    f[i / 4] = f[i / 4] << 8 | (fed + i < text.length() ? text.charAt(fed + i) : 0);
                }
                due.is("feed", x.feed(f[0], f[1], f[2], f[3], f[4]), m.feed(f[0], f[1], f[2], f[3], f[4]));
            }
            due.is("end", x.end(text.length()), m.end(text.length()));
            due.is("text", x.text(), m.text());
            due.is("by", x.by(0), m.by(0));
        }
    }

    private boolean run() {
        for (int set : new int[] {15, 11, 6, 13}) {
            due.is("best of " + set, x.best(set, false, -1), m.best(set, false, -1));
            due.is("best of " + set + ", whole", x.best(set, true, -1), m.best(set, true, -1));
        }
        for (int i = 0; i < 24; i++) {
            due.is("best, cell " + i, x.best(15, false, i), m.best(15, false, i));
            due.is("best, whole, cell " + i, x.best(15, true, i), m.best(15, true, i));
            due.is("pull " + i, x.pull(i, i % 4, 45), m.pull(i, i % 4, 45));
            due.is("both " + i, x.both(i), m.both(i));
        }
        due.is("held", x.held(7, false), m.held(7, false));
        due.is("held, whole", x.held(7, true), m.held(7, true));
        due.is("free", x.free(0), m.free(0));
        due.is("free", x.free(1), m.free(1));
        for (int i = 0; i < 6; i++) {
            due.is("judge " + i, x.judge(i), m.judge(i));
        }
        due.is("many", x.many(2, false, 0), m.many(2, false, 0));
        due.is("more", x.many(3, false, 2), m.many(3, false, 2));
        due.is("cut", x.cut(false, -1), m.cut(false, -1));
        due.is("years", x.years(1, true), m.years(1, true));
        for (int i = 0; i < 24; i++) {
            due.is("about " + (40 + i), x.about(40 + i), m.about(40 + i));
        }
        return !due.anyWrong();
    }

    public static void main(String[] args) {
        int runs = args.length > 0 ? Integer.parseInt(args[0]) : 40;
        for (int seed = 0; seed < runs; seed++) {
            if (!new FullTest(seed, seed % 4 != 0).run()) {
                System.out.println("in the land of seed " + seed);
                System.exit(1);
            }
        }
        System.out.println(runs + " full lands as due");
    }
}
