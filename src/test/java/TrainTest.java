/** Promises 26 to 28: trains by clocks. */
public final class TrainTest {
    private static final int MIN = Integer.MIN_VALUE;
    private static final int MAX = Integer.MAX_VALUE;

    private final Due due = new Due();

    private void stops() {
        HourLines x = new HourLines(2, 2);
        for (int i = 1; i <= 12; i++) {
            due.is("stop " + i, x.stop(5, i % 4, i == 1 ? 1 : 999), i);
        }
        due.is("a thirteenth", x.stop(5, 0, 1), -1);
        due.is("another train", x.stop(4, 3, 999), 1);
        int[][] wrong = {{-1, 0, 1}, {6, 0, 1}, {0, -1, 1}, {0, 4, 1}, {0, 0, 0}, {0, 0, 1000}, {MIN, MAX, MIN}};
        for (int[] w : wrong) {
            due.is("a wrong stop", x.stop(w[0], w[1], w[2]), -1);
        }
        due.is("without hours", x.clock(5, 0), -100000);
        due.is("without hours", x.early(5), -1);
        x.hour(7);
        due.is("none of train 0", x.clock(0, 0), -100000);
        due.is("the first", x.clock(5, 0), 1);
        due.is("the last", x.clock(5, 11), 1 + 11 * 999);
        due.is("none behind it", x.clock(5, 12), -100000);
        due.is("below", x.clock(5, -1), -100000);
        due.is("a wrong train", x.clock(6, 0), -100000);
        due.is("a wrong train", x.clock(-1, 0), -100000);
        due.is("wrong ones", x.clock(MAX, MAX), -100000);
        due.is("a wrong train", x.early(6), -1);
        due.is("a wrong train", x.early(-1), -1);
        due.is("a train without stops", x.early(0), -1);
    }

    private void clocks() {
        HourLines x = new HourLines(2, 2);
        x.hour(10);
        x.hour(40);
        x.hour(300);
        x.part(1, 1);
        x.part(2, 2);
        x.stop(0, 2, 5);
        x.stop(0, 1, 7);
        x.stop(0, 0, 29);
        x.stop(0, 2, 1);
        due.is("as it leaves", x.clock(0, 0), 5);
        due.is("back by 260", x.clock(0, 1), 12 - 260);
        due.is("back by 290 in all", x.clock(0, 2), 41 - 290);
        due.is("where it left", x.clock(0, 3), 42);
        due.is("early at the first", x.early(0), 1);
        x.stop(1, 1, 100);
        x.stop(1, 1, 1);
        x.stop(1, 0, 30);
        x.stop(1, 1, 1);
        due.is("as late as it was there", x.early(1), -1);
        x.stop(1, 0, 29);
        due.is("a minute ahead", x.early(1), 4);
        x.stop(5, 1, 100);
        x.stop(5, 0, 29);
        due.is("the last train", x.early(5), 1);
        x.part(0, 1);
        due.is("by THE PARTING", x.early(1), -1);
        x.summer(0, 11);
        due.is("all clocks alike in summer", x.clock(0, 1), 12 - 260);
    }

    public static void main(String[] args) {
        TrainTest test = new TrainTest();
        test.stops();
        test.clocks();
        test.due.end();
    }
}
