/** Promises 16 to 20: partings judged, BEST, HELD, CUT and MANY. */
public final class PartingTest {
    private static final int MIN = Integer.MIN_VALUE;
    private static final int MAX = Integer.MAX_VALUE;

    private final Due due = new Due();

    private void withoutHours() {
        HourLines x = new HourLines(2, 2);
        for (int i = -1; i < 8; i++) {
            due.is("judge(" + i + ")", x.judge(i), -1);
        }
        due.is("best", x.best(0, false, -1), -1);
        due.is("best", x.best(1, false, -1), -1);
        due.is("held", x.held(0, false), -1);
        due.is("cut", x.cut(false, -1), -1);
        due.is("many", x.many(0, false, 0), -1);
        due.is("many", x.many(1, true, 1), -1);
    }

    /** Three by three, hours 0, 10 and 30: rows 0 0 1, 1 0 1, 2 2 0. */
    private static HourLines told() {
        HourLines x = new HourLines(3, 3);
        x.hour(0);
        x.hour(10);
        x.hour(30);
        int[] p = {0, 0, 1, 1, 0, 1, 2, 2, 0};
        for (int i = 0; i < 9; i++) {
            x.part(i, p[i]);
        }
        return x;
    }

    private void judged() {
        HourLines x = told();
        due.is("pieces", x.judge(3), 5);
        due.is("divided", x.judge(4), 1);
        due.is("judged", x.judge(5), 3);
        x.keep(1, 1);
        due.is("kept for another", x.judge(5), 1);
        x.keep(1, 0);
        due.is("kept for its own", x.judge(5), 3);
        x.part(3, 0);
        due.is("the next one", x.judge(5), 8);
        due.is("pieces", x.judge(3), 4);
        x.part(8, 2);
        due.is("none", x.judge(5), -1);
        due.is("pieces", x.judge(3), 3);
        x.keep(8, 1);
        due.is("the last one is kept", x.judge(5), 8);
        x.cell(0, 0, 0, 1, 480, false);
        x.cell(1, 0, 0, 1, 480, false);
        due.is("one state in two hours", x.judge(4), 1);
        x.cell(5, 0, 0, 1, 480, false);
        due.is("two", x.judge(4), 2);
        x.cell(6, 0, 0, 2, 480, false);
        x.cell(7, 0, 0, 2, 480, false);
        x.cell(8, 0, 0, 2, 480, false);
        due.is("not the third", x.judge(4), 2);
        x.cell(0, 0, 0, 3, 480, false);
        x.cell(8, 0, 0, 3, 480, false);
        due.is("the first and the last cell", x.judge(4), 3);
        x.keep(0, 1);
        due.is("the first cell is kept", x.judge(5), 0);
        due.is("others", x.judge(6), -1);
        due.is("others", x.judge(-1), -1);
        due.is("others", x.judge(MIN), -1);
        due.is("others", x.judge(MAX), -1);
    }

    /** No piece goes round a row's end, or from corner to corner. */
    private void ends() {
        HourLines x = new HourLines(3, 2);
        x.hour(0);
        x.hour(1);
        x.part(2, 1);
        x.part(3, 1);
        due.is("the row's end", x.judge(3), 3);
        due.is("judged", x.judge(5), 3);
        x.part(3, 0);
        x.part(4, 1);
        due.is("corners", x.judge(3), 4);
        due.is("judged", x.judge(5), 4);
    }

    /** A piece that winds: from cell 3 it is reached from below alone. */
    private void winding() {
        HourLines x = new HourLines(6, 4);
        x.hour(0);
        x.hour(1);
        String[] rows = {".1.111", ".1.1.1", ".1.1.1", ".111.."};
        for (int i = 0; i < 24; i++) {
            x.part(i, rows[i / 6].charAt(i % 6) == '1' ? 1 : 0);
        }
        due.is("pieces", x.judge(3), 4);
        due.is("judged", x.judge(5), 2);
        rows = new String[] {"...111", "1111.1", "1....1", "111111"};
        for (int i = 0; i < 24; i++) {
            x.part(i, rows[i / 6].charAt(i % 6) == '1' ? 1 : 0);
        }
        due.is("round about", x.judge(3), 3);
        due.is("judged", x.judge(5), 10);
        rows = new String[] {"11111.", "...1.1", ".1.1.1", ".1...1"};
        for (int i = 0; i < 24; i++) {
            x.part(i, rows[i / 6].charAt(i % 6) == '1' ? 1 : 0);
        }
        due.is("three of 1, two of 0", x.judge(3), 5);
    }

    private void prices() {
        HourLines x = told();
        x.cell(4, 5, 3, 0, 480, false);
        x.cell(6, 20, 2, 0, 480, false);
        x.tie(4, 6, 7);
        x.tie(6, 4, 1);
        x.tie(0, 1, 50);
        due.is("cells", x.judge(1), 5 * 3 * 12 + 10 * 2 * 12);
        due.is("ties", x.judge(2), 30 * 8);
        due.is("price", x.judge(0), 420 + 240);
        x.keep(4, 2);
        due.is("kept aside", x.judge(0), 660);
    }

    /** A row of four states' cells, whose sun is 0, 20, 40, 60, ten people each. */
    private static HourLines slope() {
        HourLines x = new HourLines(2, 2);
        for (int i = 0; i < 4; i++) {
            x.cell(i, 20 * i, 10, i / 2, 480, false);
        }
        x.hour(0);
        x.hour(30);
        x.hour(60);
        return x;
    }

    private void bests() {
        HourLines x = slope();
        due.is("all hours", x.best(7, false, -1), (0 + 10 + 10 + 0) * 120);
        int[] p = {0, 1, 1, 2};
        for (int i = 0; i < 4; i++) {
            due.is("cell " + i, x.best(7, false, i), p[i]);
        }
        due.is("0 and 2", x.best(5, false, -1), 4800);
        due.is("cell 2's", x.best(5, false, 2), 2);
        due.is("cell 1's", x.best(5, false, 1), 0);
        due.is("0 alone", x.best(1, false, -1), (0 + 20 + 40 + 60) * 120);
        due.is("1 alone", x.best(2, false, -1), (30 + 10 + 10 + 30) * 120);
        due.is("cell 0's", x.best(2, false, 0), 1);
        due.is("whole", x.best(7, true, -1), (0 + 20 + 20 + 0) * 120);
        due.is("whole, cell 0", x.best(7, true, 0), 0);
        due.is("whole, cell 1", x.best(7, true, 1), 0);
        due.is("whole, cell 2", x.best(7, true, 2), 2);
        due.is("no hours", x.best(0, false, -1), -1);
        due.is("hours not told", x.best(8, false, -1), -1);
        due.is("hours not told", x.best(9, false, 0), -1);
        due.is("hours below 0", x.best(-1, false, -1), -1);
        due.is("hours below 0", x.best(MIN, false, -1), -1);
        due.is("a wrong cell", x.best(7, false, 4), -1);
        due.is("a wrong cell", x.best(7, false, -2), -1);
        due.is("THE PARTING stays", x.about(43), 0);
        x.tie(0, 3, 99);
        due.is("by the tie", x.best(7, false, -1), Math.min(2400 + 99 * 60, 2400 + 30 * 120 * 2));
        x.cell(0, 0, 0, 0, 480, false);
        due.is("one without people goes along", x.best(7, false, -1), 2400);
        due.is("with the tie's other", x.best(7, false, 0), 2);
    }

    /** Of like ones the lowest hour everywhere. */
    private void lowest() {
        HourLines x = new HourLines(2, 2);
        x.hour(0);
        x.hour(60);
        for (int i = 0; i < 4; i++) {
            x.cell(i, 30, 10, 0, 480, false);
            x.tie(i, (i + 1) % 4, 1);
        }
        for (int i = 0; i < 4; i++) {
            due.is("cell " + i, x.best(3, false, i), 0);
            due.is("cell " + i + " by 1 alone", x.best(2, false, i), 1);
        }
        x.keep(2, 1);
        due.is("the kept one", x.best(3, false, 2), 1);
        due.is("its neighbours go along", x.best(3, false, 0), 1);
        due.is("no tie is cut", x.cut(false, -1), 0);
        x.keep(0, 0);
        // Cells 1 and 3 pay a tie either way.
        due.is("lowest of like ones", x.best(3, false, 1), 0);
        due.is("cut", x.cut(false, -1), 2);
        due.is("the first cut", x.cut(false, 0), 1);
        due.is("the second cut", x.cut(false, 1), 2);
        due.is("no third", x.cut(false, 2), -1);
        due.is("no such", x.cut(false, -2), -1);
        due.is("no such", x.cut(false, MIN), -1);
        due.is("no such", x.cut(false, MAX), -1);
        due.is("kept apart, whole", x.best(3, true, -1), -1);
        due.is("cut of none", x.cut(true, -1), -1);
        due.is("held of none", x.held(1, true), -1);
        due.is("many of none", x.many(2, true, 0), -1);
        due.is("many of none", x.many(2, true, 1), -1);
        due.is("many of none", x.many(2, true, 2), -1);
        due.is("one hour isn't enough", x.many(1, false, 0), -1);
        due.is("two are", x.many(2, false, 0), 3);
        due.is("no more by two", x.many(2, false, 2), -1);
    }

    private void helds() {
        HourLines x = slope();
        due.is("cell 0", x.held(0, false), 30 * 120);
        due.is("cell 1", x.held(1, false), 10 * 120);
        due.is("cell 2", x.held(2, false), 10 * 120);
        due.is("whole, cell 0", x.held(0, true), 20 * 120);
        x.keep(1, 0);
        due.is("kept", x.held(1, false), -1);
        due.is("its state is kept", x.held(0, true), -1);
        due.is("states aside", x.held(0, false), 3600);
        due.is("a wrong cell", x.held(4, false), -1);
        due.is("a wrong cell", x.held(-1, true), -1);
        x.back();
        x.hour(7);
        due.is("the only hour", x.held(0, false), -1);
        x.hour(8);
        due.is("all like", x.held(0, false), 0);
        x.cell(0, 8, 1, 0, 480, false);
        due.is("a price of 0", x.best(3, false, -1), 0);
        due.is("its hour", x.best(3, false, 0), 1);
        // Just this cell had to have another: the others may go along.
        x.cell(0, 7, 1, 0, 480, false);
        x.tie(0, 1, 99);
        due.is("the other end goes along", x.held(0, false), 12);
    }

    /** Cells that like the first and the last hour, between neighbours that like the middle. */
    private void hollow() {
        HourLines x = new HourLines(3, 2);
        for (int i = 0; i < 3; i++) {
            x.hour(10 * i);
        }
        Tape.rule(x, "cost if state = 1 ? if hour = 1 ? 90 : 10 end : if hour = 1 ? 0 : 50 end end;");
        x.cell(1, 0, 0, 1, 480, false);
        x.cell(4, 0, 0, 1, 480, false);
        x.tie(1, 0, 20);
        x.tie(1, 2, 20);
        x.tie(4, 3, 2);
        x.tie(1, 4, 1);
        due.is("best", x.best(7, false, -1), 2 * 120 + 400 + 20);
        due.is("the first tie cut", x.cut(false, 0), 0);
        due.is("ties cut", x.cut(false, -1), 3);
        due.is("cell 1", x.best(7, false, 1), 0);
        x.tie(1, 0, 41);
        due.is("its ties outweigh it", x.best(7, false, 0), 0);
        x.keep(0, 1);
        x.keep(2, 1);
        due.is("kept around", x.best(7, false, -1), 2 * 120 + 610 + 200 + 20);
        x.tie(1, 0, 1);
        due.is("held", x.held(1, false), 0);
    }

    private void manys() {
        HourLines x = slope();
        due.is("one", x.many(1, false, 0), 2);
        due.is("its price", x.many(1, false, 1), 80 * 120);
        due.is("no more by one", x.many(1, false, 2), -1);
        due.is("two", x.many(2, false, 0), 5);
        due.is("its price", x.many(2, false, 1), 4800);
        due.is("more", x.many(2, false, 2), 4800);
        due.is("three", x.many(3, false, 0), 7);
        due.is("its price", x.many(3, false, 1), 2400);
        due.is("more", x.many(3, false, 2), 2400);
        due.is("three, whole", x.many(3, true, 2), 0);
        due.is("four aren't there", x.many(4, false, 0), -1);
        due.is("none", x.many(0, false, 0), -1);
        due.is("below", x.many(-1, false, 0), -1);
        due.is("others", x.many(1, false, 3), -1);
        due.is("others", x.many(2, false, 3), -1);
        due.is("others", x.many(2, false, -1), -1);
        due.is("others", x.many(4, false, 1), -1);
        due.is("others", x.many(0, true, 2), -1);
        due.is("others", x.many(1, false, -1), -1);
        due.is("others", x.many(MAX, false, MIN), -1);
        x.hour(61);
        for (int i = 0; i < 4; i++) {
            x.cell(i, 0, 0, 0, 480, false);
        }
        due.is("of like ones the lowest", x.many(1, false, 0), 1);
        due.is("of like ones the lowest", x.many(2, false, 0), 3);
        due.is("of like ones the lowest", x.many(3, true, 0), 7);
        due.is("all", x.many(4, true, 0), 15);
        x.keep(0, 3);
        due.is("with the kept one's", x.many(1, false, 0), 8);
        due.is("with the kept one's", x.many(3, false, 0), 11);
    }

    public static void main(String[] args) {
        PartingTest test = new PartingTest();
        test.withoutHours();
        test.judged();
        test.ends();
        test.winding();
        test.prices();
        test.bests();
        test.lowest();
        test.helds();
        test.hollow();
        test.manys();
        test.due.end();
    }
}
