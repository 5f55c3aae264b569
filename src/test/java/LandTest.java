/** Promises 1 to 8 and 31 to 33: the land, what is told of it, the image, and about. */
public final class LandTest {
    private static final int MIN = Integer.MIN_VALUE;
    private static final int MAX = Integer.MAX_VALUE;

    private final Due due = new Due();

    private void sizes() {
        int[][] asked = {{2, 2}, {6, 4}, {1, 5}, {7, 1}, {MIN, MAX}, {MAX, MIN}, {4, 3}, {0, 0}};
        int[][] given = {{2, 2}, {6, 4}, {2, 4}, {6, 2}, {2, 4}, {6, 2}, {4, 3}, {2, 2}};
        for (int i = 0; i < asked.length; i++) {
            HourLines x = new HourLines(asked[i][0], asked[i][1]);
            due.is("W of " + asked[i][0], x.about(0), given[i][0]);
            due.is("H of " + asked[i][1], x.about(1), given[i][1]);
            int cells = given[i][0] * given[i][1];
            due.is("the last cell's people", x.about(10 + cells - 1), 0);
            due.is("none behind it", x.about(10 + cells), -2);
            due.is("the last cell's hour", x.about(40 + cells - 1), 0);
            due.is("none behind it", x.about(40 + cells), -2);
            due.is("the last cell is kept", x.about(70 + cells - 1), -1);
            due.is("none behind it", x.about(70 + cells), -2);
        }
    }

    private void begins() {
        HourLines x = new HourLines(3, 2);
        int[] first = {3, 2, 0, 0, 0, -1, -1, -1, 0};
        for (int i = 0; i < first.length; i++) {
            due.is("about(" + i + ") of a new one", x.about(i), first[i]);
        }
        for (int what : new int[] {-1, 9, 39, 69, 94, 100, MIN, MAX, MIN + 10, MIN + 39, MIN + 69}) {
            due.is("about(" + what + ")", x.about(what), -2);
        }
        x.hour(0);
        due.is("sun at first 0", x.off(5, 0, 0, 0), 0);
        due.is("begin at first 480, rise 360", x.off(5, 0, 0, 1), 0);
        x.rise(3, 481);
        due.is("dark by begin 480", x.off(5, 0, 3, 1), 1);
        due.is("no town at first", x.pull(5, 0, 0), -1000000000);
        due.is("one state at first", x.judge(4), 0);
        due.is("people at first 0", x.judge(0), 0);
    }

    private void cells() {
        HourLines x = new HourLines(2, 2);
        x.hour(300);
        due.is("cell at the lower bounds", x.cell(0, 0, 0, 0, 0, false), true);
        due.is("cell at the upper bounds", x.cell(3, 300, 999, 5, 900, true), true);
        due.is("its people", x.about(13), 999);
        due.is("its off", x.off(3, 0, 0, 0), 0);
        due.is("it is a town", x.pull(3, 0, 0), 0);
        x.cell(1, 10, 20, 1, 30, true);
        int[][] wrong = {{-1, 0, 0, 0, 0}, {4, 0, 0, 0, 0}, {1, -1, 0, 0, 0}, {1, 301, 0, 0, 0}, {1, 0, -1, 0, 0},
            {1, 0, 1000, 0, 0}, {1, 0, 0, -1, 0}, {1, 0, 0, 6, 0}, {1, 0, 0, 0, -1}, {1, 0, 0, 0, 901},
            {MIN, 0, 0, 0, 0}, {MAX, 0, 0, 0, 0}};
        for (int[] c : wrong) {
            due.is("a wrong cell", x.cell(c[0], c[1], c[2], c[3], c[4], false), false);
        }
        due.is("people stay", x.about(11), 20);
        due.is("sun stays", x.off(1, 0, 0, 0), 290);
        due.is("begin stays", x.off(1, 0, 0, 1), 620);
        due.is("town stays", x.pull(1, 0, 0), 0);
        x.hour(300);
        x.part(0, 0);
        due.is("x + W y: the cell below", x.judge(3), 1);
    }

    private void ties() {
        HourLines x = new HourLines(2, 2);
        due.is("a tie of weight 0", x.tie(0, 1, 0), -1);
        due.is("a tie of weight 100", x.tie(0, 1, 100), -1);
        due.is("a tie to itself", x.tie(2, 2, 5), -1);
        due.is("a tie from -1", x.tie(-1, 2, 5), -1);
        due.is("a tie to 4", x.tie(1, 4, 5), -1);
        due.is("no tie is there", x.about(3), 0);
        due.is("a tie", x.tie(0, 1, 1), 1);
        due.is("the same again", x.tie(0, 1, 99), 2);
        for (int i = 3; i <= 40; i++) {
            due.is("tie " + i, x.tie(3, i % 3, i), i);
        }
        due.is("the 41st", x.tie(0, 1, 1), -1);
        due.is("forty", x.about(3), 40);
        x.hour(0);
        x.hour(10);
        x.part(1, 1);
        int weight = 1 + 99;
        for (int i = 3; i <= 40; i++) {
            weight += i % 3 == 1 ? i : 0;
        }
        due.is("what ties pay", x.judge(2), 10 * weight);
    }

    private void hours() {
        HourLines x = new HourLines(2, 2);
        due.is("below 0", x.hour(-1), -1);
        due.is("above 300", x.hour(301), -1);
        due.is("the first", x.hour(5), 0);
        due.is("the same", x.hour(5), -1);
        due.is("one below", x.hour(4), -1);
        due.is("one above", x.hour(6), 1);
        due.is("the third", x.hour(299), 2);
        due.is("the last", x.hour(300), 3);
        due.is("a fifth", x.hour(300), -1);
        due.is("four", x.about(2), 4);
        due.is("off by the last", x.off(0, 3, 0, 0), 300);
        due.is("no off by a fifth", x.off(0, 4, 0, 0), -100000);
    }

    private void months() {
        HourLines x = new HourLines(2, 2);
        x.hour(0);
        due.is("rise of -1", x.rise(-1, 0), false);
        due.is("rise of 12", x.rise(12, 0), false);
        due.is("rise to -1", x.rise(0, -1), false);
        due.is("rise to 721", x.rise(0, 721), false);
        due.is("rise to 720", x.rise(0, 720), true);
        due.is("dark then", x.off(0, 0, 0, 1), 240);
        due.is("rise to 0", x.rise(11, 0), true);
        x.cell(0, 0, 0, 0, 10, false);
        due.is("dark at 0", x.off(0, 0, 11, 1), 0);
        due.is("dark of another month", x.off(0, 0, 10, 1), 350);
        due.is("summer 3 to 3", x.summer(3, 3), true);
        due.is("in it", x.off(0, 0, 3, 0), 60);
        due.is("dark in it", x.off(0, 0, 3, 1), 410);
        due.is("ahead of it", x.off(0, 0, 2, 0), 0);
        due.is("behind it", x.off(0, 0, 4, 0), 0);
        for (int[] s : new int[][] {{-2, 0}, {12, 0}, {0, -1}, {0, 12}, {MIN, 0}, {0, MAX}}) {
            due.is("a wrong summer", x.summer(s[0], s[1]), false);
        }
        due.is("it stays", x.about(6) * 100 + x.about(7), 303);
        due.is("round the year", x.summer(10, 1), true);
        int[] in = {60, 60, 0, 0, 0, 0, 0, 0, 0, 0, 60, 60};
        for (int i = 0; i < 12; i++) {
            due.is("month " + i, x.off(0, 0, i, 0), in[i]);
        }
        due.is("its a", x.about(6), 10);
        due.is("its b", x.about(7), 1);
        due.is("none", x.summer(-1, 99), true);
        due.is("no a", x.about(6), -1);
        due.is("no b", x.about(7), -1);
        due.is("none is so", x.off(0, 0, 11, 0), 0);
    }

    private void keepsAndParts() {
        HourLines x = new HourLines(2, 2);
        due.is("kept for an hour not told", x.keep(0, 0), false);
        due.is("kept for any, without hours", x.keep(0, -1), true);
        due.is("part without hours", x.part(0, 0), false);
        x.hour(1);
        x.hour(2);
        due.is("kept", x.keep(0, 1), true);
        due.is("kept for 2", x.keep(0, 2), false);
        due.is("kept for -2", x.keep(0, -2), false);
        due.is("a wrong cell is kept", x.keep(4, 0), false);
        due.is("a wrong cell is kept", x.keep(-1, -1), false);
        due.is("it stays", x.about(70), 1);
        due.is("any", x.keep(0, -1), true);
        due.is("it is", x.about(70), -1);
        due.is("part", x.part(3, 1), true);
        due.is("part to 2", x.part(3, 2), false);
        due.is("part to none", x.part(3, -1), false);
        due.is("part of 4", x.part(4, 0), false);
        due.is("part of -1", x.part(-1, 0), false);
        due.is("it is", x.about(43), 1);
        due.is("the others", x.about(42), 0);
    }

    private void images() {
        HourLines x = new HourLines(2, 2);
        x.hour(0);
        x.hour(60);
        x.cell(0, 1, 2, 3, 4, true);
        x.tie(0, 1, 2);
        x.rise(0, 20);
        x.summer(1, 2);
        x.keep(0, 1);
        x.part(0, 1);
        x.stop(0, 0, 5);
        Tape.rule(x, "cost 3;");
        due.is("image", x.image(), 2);
        x.hour(70);
        x.cell(0, 5, 6, 0, 8, false);
        x.tie(0, 1, 3);
        x.rise(0, 700);
        x.summer(0, 11);
        x.keep(0, -1);
        x.part(0, 2);
        x.stop(0, 1, 5);
        Tape.rule(x, "cost 4;");
        Tape.tell(x, "cost 4");
        Tape.put(x, "left");
        due.is("pays by the later text", x.pays(0, 0), 48);
        due.is("back", x.back(), 2);
        int[][] due0 = {{2, 2}, {3, 1}, {4, 1}, {5, 0}, {6, 1}, {7, 2}, {8, 4}, {10, 2}, {40, 1}, {70, 1}};
        for (int[] d : due0) {
            due.is("about(" + d[0] + ") behind back", x.about(d[0]), d[1]);
        }
        due.is("the fault isn't so again", x.fault(0) * 100 + x.fault(1), 106);
        due.is("sun", x.off(0, 0, 0, 0), -1);
        due.is("begin and rise", x.off(0, 0, 0, 1), 20 - 4 - 1);
        due.is("town", x.pull(0, 0, 0), 0);
        due.is("state", x.judge(4), 0);
        due.is("pays by the text then", x.pays(0, 0), 36);
        due.is("the train", x.clock(0, 1), -100000);
        due.is("its first stop", x.clock(0, 0), 5);
        x.part(0, 0);
        due.is("text 1 anew", Tape.tell(x, "cost 7;"), 1);
        due.is("back again", x.back(), 2);
        due.is("the image stays", x.about(40), 1);
        due.is("no text 1", x.by(1), false);
    }

    private void firstImage() {
        HourLines x = new HourLines(6, 4);
        x.hour(9);
        x.cell(23, 1, 2, 3, 4, true);
        x.tie(0, 23, 2);
        x.summer(0, 1);
        Tape.rule(x, "");
        due.is("back to the new one", x.back(), 0);
        int[] first = {6, 4, 0, 0, 0, -1, -1, -1, 0};
        for (int i = 0; i < first.length; i++) {
            due.is("about(" + i + ") then", x.about(i), first[i]);
        }
        due.is("people then", x.about(33), 0);
        due.is("no hours", x.judge(0), -1);
        due.is("image of none", x.image(), 0);
        x.hour(3);
        x.image();
        x.hour(4);
        due.is("an image replaces the one ahead", x.back(), 1);
    }

    public static void main(String[] args) {
        LandTest test = new LandTest();
        test.sizes();
        test.begins();
        test.cells();
        test.ties();
        test.hours();
        test.months();
        test.keepsAndParts();
        test.images();
        test.firstImage();
        test.due.end();
    }
}
