/** Promises 21 to 25 and 30: ONE, LOSES, FREE, PULL, WHEN and BOTH. */
public final class ChoiceTest {
    private static final int MIN = Integer.MIN_VALUE;
    private static final int MAX = Integer.MAX_VALUE;
    private static final int NO_WORTH = -1000000000;

    private final Due due = new Due();

    private void withoutHours() {
        HourLines x = new HourLines(2, 2);
        x.cell(0, 0, 0, 0, 0, true);
        due.is("one", x.one(0), -1);
        due.is("loses", x.loses(0, 0), -1);
        due.is("free", x.free(0), -1);
        due.is("free", x.free(10), -1);
        due.is("pull", x.pull(0, 0, 0), NO_WORTH);
        due.is("when", x.when(0), -2);
        due.is("both", x.both(0), NO_WORTH);
    }

    private static HourLines slope() {
        HourLines x = new HourLines(2, 2);
        for (int i = 0; i < 4; i++) {
            x.cell(i, 20 * i, 10 + i, 0, 480, false);
        }
        x.hour(0);
        x.hour(30);
        x.hour(60);
        return x;
    }

    private void ones() {
        HourLines x = slope();
        due.is("one", x.one(0), 1);
        due.is("its pay", x.one(1), (30 * 10 + 10 * 11 + 10 * 12 + 30 * 13) * 12);
        x.keep(0, 0);
        due.is("kept aside", x.one(0), 1);
        for (int i = 0; i < 4; i++) {
            x.cell(i, 15, 1, 0, 480, false);
        }
        due.is("of like ones the lowest", x.one(0), 0);
        due.is("others", x.one(2), -1);
        due.is("others", x.one(-1), -1);
        for (int i = 0; i < 4; i++) {
            x.cell(i, 45, 1, 0, 480, false);
        }
        due.is("of like ones the lowest", x.one(0), 1);
        due.is("its pay", x.one(1), 15 * 4 * 12);
    }

    private void onlyHour() {
        HourLines x = new HourLines(2, 2);
        x.cell(0, 20, 3, 0, 480, false);
        x.hour(10);
        due.is("the only hour", x.one(0), 0);
        due.is("its pay", x.one(1), 360);
        due.is("none loses", x.loses(0, 1), 0);
        due.is("none changes", x.free(0), 1);
        due.is("it", x.many(1, false, 0), 1);
    }

    private void losers() {
        HourLines x = slope();
        due.is("by 0: people", x.loses(0, 0), 11 + 12 + 13);
        due.is("by 0: cells", x.loses(0, 1), 3);
        due.is("by 1: people", x.loses(1, 0), 10 + 13);
        due.is("by 1: cells", x.loses(1, 1), 2);
        due.is("by 2: people", x.loses(2, 0), 10 + 11 + 12);
        x.cell(1, 15, 11, 0, 480, false);
        due.is("as much isn't less", x.loses(0, 1), 2);
        due.is("by no hour", x.loses(3, 0), -1);
        due.is("by no hour", x.loses(-1, 1), -1);
        due.is("others", x.loses(0, 2), -1);
        due.is("others", x.loses(0, -1), -1);
    }

    private void frees() {
        HourLines x = slope();
        due.is("rounds", x.free(0), 2);
        due.is("changes", x.free(1), 3);
        int[] p = {0, 1, 1, 2};
        for (int i = 0; i < 4; i++) {
            due.is("cell " + i, x.free(10 + i), p[i]);
            due.is("THE PARTING stays", x.about(40 + i), 0);
        }
        for (int what : new int[] {2, 9, 14, -1, MIN, MAX, MIN + 10}) {
            due.is("free(" + what + ")", x.free(what), -1);
        }
        x.part(0, 1);
        x.part(1, 2);
        due.is("down", x.free(10), 0);
        due.is("down", x.free(11), 1);
        x.part(0, 0);
        x.part(1, 0);
        x.keep(1, 2);
        due.is("a kept cell stays as it is", x.free(11), 0);
        Tape.rule(x, "stay people > 11;");
        due.is("two stay", x.free(1), 0);
        due.is("one round without change", x.free(0), 1);
        Tape.rule(x, "stay hour = 0 and month = 0;");
        due.is("all stay", x.free(1), 0);
        x.part(3, 1);
        due.is("but this one", x.free(1), 1);
        due.is("goes", x.free(13), 2);
        HourLines y = new HourLines(2, 2);
        y.hour(0);
        y.hour(60);
        y.cell(0, 30, 0, 0, 480, false);
        Tape.rule(y, "cost 1 - hour; stay off >= 0;");
        y.summer(1, 11);
        due.is("month 0 isn't in summer", y.free(10), 1);
        y.summer(11, 0);
        due.is("month 0 is", y.free(10), 0);
    }

    /** The cell's own hour first, then the lowest; as all others are now. */
    private void freeTies() {
        HourLines x = new HourLines(2, 2);
        x.hour(0);
        x.hour(60);
        x.hour(120);
        for (int i = 0; i < 4; i++) {
            x.cell(i, 60, 0, 0, 480, false);
        }
        x.cell(0, 90, 1, 0, 480, false);
        x.part(0, 2);
        due.is("of like ones its own", x.free(10), 2);
        x.part(0, 0);
        due.is("else the lowest", x.free(10), 1);
        // A chain: each goes after the one ahead in the same round, or one a round behind it.
        x.cell(0, 120, 99, 0, 480, false);
        x.tie(0, 1, 2);
        x.tie(1, 2, 1);
        due.is("rounds along the chain", x.free(0), 2);
        due.is("changes", x.free(1), 3);
        due.is("the last one", x.free(12), 2);
        HourLines y = new HourLines(2, 2);
        y.hour(0);
        y.hour(60);
        y.cell(3, 60, 99, 0, 480, false);
        y.tie(3, 2, 3);
        y.tie(2, 1, 2);
        y.tie(1, 0, 1);
        due.is("rounds against the chain", y.free(0), 5);
        due.is("changes", y.free(1), 4);
        Tape.rule(y, "stay alone = 2;");
        due.is("one stays by its ties, as hours are then", y.free(11), 0);
        due.is("the one ahead went", y.free(12), 1);
        due.is("changes", y.free(1), 2);
        y.part(1, 1);
        due.is("alone on both sides", y.free(11), 1);
    }

    /** Twenty cells whose hours go along one by one, against their numbers. */
    private void freeWithoutEnd() {
        for (int cells = 19; cells <= 21; cells++) {
            HourLines x = new HourLines(6, 4);
            x.hour(0);
            x.hour(60);
            x.cell(cells - 1, 60, 999, 0, 480, false);
            for (int i = cells - 1; i > 0; i--) {
                x.tie(i, i - 1, 4 * i);
            }
            due.is("rounds by " + cells, x.free(0), cells < 20 ? cells + 1 : -1);
            due.is("changes by " + cells, x.free(1), Math.min(cells, 20));
            due.is("the lowest by " + cells, x.free(10), cells < 21 ? 1 : 0);
        }
    }

    private void pulls() {
        HourLines x = new HourLines(3, 2);
        x.hour(0);
        x.hour(60);
        x.cell(4, 60, 1, 0, 480, true);
        x.part(4, 1);
        x.cell(0, 60, 2, 0, 480, false);
        x.cell(1, 0, 3, 0, 480, false);
        x.tie(0, 4, 5);
        x.tie(0, 2, 1);
        due.is("nothing", x.pull(4, 0, 0), 0);
        due.is("cell 0", x.pull(4, 0, 1), 60 * 2 * 12 + 60 * 5 - 60);
        due.is("cell 1", x.pull(4, 0, 2), -60 * 3 * 12);
        due.is("cells 0 and 2", x.pull(4, 0, 5), 60 * 2 * 12 + 60 * 5);
        due.is("its own row", x.pull(4, 1, 7), 0);
        x.keep(0, 0);
        due.is("kept aside", x.pull(4, 0, 5), 60 * 2 * 12 + 60 * 5);
        due.is("THE PARTING stays", x.about(40), 0);
        int[][] wrong = {{0, 0, 1}, {-1, 0, 1}, {6, 0, 1}, {4, -1, 1}, {4, 2, 1}, {4, 0, 8}, {4, 0, -1}, {4, 0, MIN},
            {MAX, MAX, MAX}};
        for (int[] w : wrong) {
            due.is("pull(" + w[0] + ", " + w[1] + ", " + w[2] + ")", x.pull(w[0], w[1], w[2]), NO_WORTH);
        }
    }

    private void whens() {
        HourLines x = new HourLines(2, 2);
        x.hour(0);
        x.hour(10);
        x.cell(0, 30, 1, 0, 480, false);
        x.tie(0, 1, 7);
        x.part(0, 1);
        // 20 off without, 40 with a summer.
        due.is("none", x.when(0), -1);
        due.is("none", x.when(1), -1);
        due.is("its price", x.when(2), 20 * 12 + 70);
        x.cell(0, 40, 1, 0, 480, false);
        due.is("of like ones none", x.when(0), -1);
        x.cell(0, 41, 1, 0, 480, false);
        due.is("all the year", x.when(0) * 100 + x.when(1), 11);
        due.is("its price", x.when(2), 29 * 12 + 70);
        x.summer(2, 3);
        due.is("whatever it is now", x.when(2), 29 * 12 + 70);
        due.is("it stays", x.about(6), 2);
        Tape.rule(x, "cost if month < 3 or month > 8 ? off + 100 : 300 - off end;");
        due.is("months 3 to 8", x.when(0) * 100 + x.when(1), 308);
        Tape.rule(x, "cost if month = 4 or month = 7 ? 300 - off : if month = 5 ? off + 400 : off + 100 end end;");
        due.is("the lowest a, then the lowest b", x.when(0) * 100 + x.when(1), 404);
        Tape.rule(x, "cost if month = 4 or month = 6 ? 300 - off : off + 100 end;");
        due.is("the lowest b", x.when(0) * 100 + x.when(1), 404);
        Tape.rule(x, "cost if month = 11 ? 300 - off : off + 100 end;");
        due.is("the last month", x.when(0) * 100 + x.when(1), 1111);
        due.is("others", x.when(3), -2);
        due.is("others", x.when(-1), -2);
        due.is("others", x.when(MIN), -2);
    }

    private void boths() {
        HourLines x = new HourLines(2, 2);
        x.hour(0);
        x.hour(20);
        x.hour(50);
        x.cell(0, 15, 1, 0, 480, false);
        due.is("the dearer is its own", x.both(0), 0);
        x.cell(0, 5, 1, 0, 480, false);
        due.is("the dearer is the next", x.both(0), -(15 - 5) * 12);
        x.tie(0, 1, 10);
        due.is("a tie to its own", x.both(0), -120);
        x.part(1, 1);
        due.is("a tie to the next", x.both(0), 200 - 120);
        x.part(1, 2);
        due.is("a tie to another", x.both(0), 500 - 300 - 120);
        x.part(0, 1);
        due.is("from 1 to the next", x.both(0), 15 * 12 - 45 * 12 + 300);
        x.part(1, 0);
        due.is("the nearer is its own", x.both(0), 15 * 12 - 45 * 12);
        x.tie(2, 3, 99);
        due.is("another's ties", x.both(0), 15 * 12 - 45 * 12);
        x.part(0, 2);
        due.is("without a next", x.both(0), NO_WORTH);
        due.is("a wrong cell", x.both(-1), NO_WORTH);
        due.is("a wrong cell", x.both(4), NO_WORTH);
        due.is("a wrong cell", x.both(MAX), NO_WORTH);
    }

    public static void main(String[] args) {
        ChoiceTest test = new ChoiceTest();
        test.withoutHours();
        test.ones();
        test.onlyHour();
        test.losers();
        test.frees();
        test.freeTies();
        test.freeWithoutEnd();
        test.pulls();
        test.whens();
        test.boths();
        test.due.end();
    }
}
