/** Where the land ends: each bound that part I and promises 1 to 8 and 31 to 33 name has a test of its own. */
public final class LandBoundsTest extends Sentences {

    /** A land in which everything that a cell has can be seen: its state is what it pays, twelve times. */
    private static HourLines open() {
        HourLines x = land(300);
        x.rise(0, 720);
        Tape.rule(x, "cost state;");
        return x;
    }

    private void cellIs(HourLines x, int c, int people, int off, int dark, int state, boolean town) {
        due.is("people of " + c, x.about(10 + c), people);
        due.is("off of " + c, x.off(c, 0, 0, 0), off);
        due.is("dark of " + c, x.off(c, 0, 0, 1), dark);
        due.is("state of " + c, x.pays(c, 0), 12 * state);
        due.is("town " + c, x.pull(c, 0, 0) == 0, town);
    }

    private void refusesCell(int cell, int sun, int people, int state, int begin) {
        HourLines x = open();
        for (int i = 0; i < 4; i++) {
            x.cell(i, 10 + i, 20 + i, 1 + i, 400 + i, true);
        }
        String before = shown(x);
        due.is("cell(" + cell + ", " + sun + ", " + people + ", " + state + ", " + begin + ", false)",
                x.cell(cell, sun, people, state, begin, false), false);
        due.holds("nothing is changed by it", shown(x).equals(before));
    }

    // What it is

    @Says("What it is: An object is used for at most 512 calls after it has been made")
    void the512thCallStillHolds() {
        HourLines x = new HourLines(6, 4);
        for (int i = 0; i < 4; i++) {
            x.hour(10 * i);
        }
        for (int i = 0; i < 506; i++) {
            x.part(i % 24, i % 4);
        }
        due.is("the 511th call", x.judge(0), 0);
        due.is("the 512th call", x.about(40 + 505 % 24), 505 % 4);
    }

    // Promise 1

    @Says("Promise 1: W by H CELLS (2 to 6, 2 to 4;")
    void everySizeWithinIsItself() {
        for (int w = 2; w <= 6; w++) {
            for (int h = 2; h <= 4; h++) {
                HourLines x = new HourLines(w, h);
                due.is("W", x.about(0), w);
                due.is("H", x.about(1), h);
                due.is("the last cell", x.about(10 + w * h - 1), 0);
                due.is("none behind it", x.about(10 + w * h), -2);
            }
        }
    }

    @Says("Promise 1: others: the nearest of these")
    void tooNarrowIsTwo() {
        for (int w : new int[] {1, 0, -1, MIN}) {
            due.is("W of " + w, new HourLines(w, 3).about(0), 2);
        }
    }

    @Says("Promise 1: others: the nearest of these")
    void tooBroadIsSix() {
        for (int w : new int[] {7, 8, 1000, MAX}) {
            due.is("W of " + w, new HourLines(w, 3).about(0), 6);
        }
    }

    @Says("Promise 1: others: the nearest of these")
    void tooLowIsTwo() {
        for (int h : new int[] {1, 0, -1, MIN}) {
            due.is("H of " + h, new HourLines(3, h).about(1), 2);
        }
    }

    @Says("Promise 1: others: the nearest of these")
    void tooHighIsFour() {
        for (int h : new int[] {5, 6, 1000, MAX}) {
            due.is("H of " + h, new HourLines(3, h).about(1), 4);
        }
    }

    @Says("Promise 1: THE IMAGE is this.")
    void theFirstImageIsTheNewLand() {
        HourLines x = new HourLines(3, 2);
        String before = shown(x);
        x.hour(7);
        x.cell(5, 1, 2, 3, 4, true);
        x.tie(0, 5, 3);
        x.rise(11, 3);
        x.summer(3, 2);
        x.keep(0, 0);
        x.stop(0, 0, 1);
        Tape.rule(x, "");
        due.is("back", x.back(), 0);
        // The latest text's fault is not what an image keeps.
        due.holds("all is as it was new", shown(x).replaceAll(" \\S+ \\S+$", "").equals(before.replaceAll(" \\S+ \\S+$", "")));
    }

    @Says("Terms: The constants: `NONE = -1`: None.")
    void noneIsMinusOne() {
        due.is("NONE", HourLines.NONE, -1);
    }

    // I. The land

    @Says("Terms: I. THE LAND: W by H CELLS (x, y from 0; c = x + W y)")
    void cellsCountFromZeroRowByRow() {
        for (int[] size : new int[][] {{2, 2}, {3, 4}, {6, 4}, {6, 2}}) {
            HourLines x = sized(size[0], size[1], 0, 10);
            int cells = size[0] * size[1];
            for (int c = 0; c < cells; c++) {
                x.cell(c, 0, c + 1, 0, 480, c == cells - 1);
                x.part(c, c == cells - 1 ? 0 : 1);
            }
            for (int c = 0; c < cells - 1; c++) {
                due.is("cell " + c, x.pull(cells - 1, c / size[0], 1 << c % size[0]), 120 * (c + 1));
            }
        }
    }

    @Says("Terms: each with SUN (0 .. 300: minutes its noon comes late)")
    void sunFrom0To300() {
        HourLines x = land(0);
        due.is("sun 0", x.cell(0, 0, 0, 0, 0, false), true);
        due.is("off then", x.off(0, 0, 0, 0), 0);
        due.is("sun 300", x.cell(0, 300, 0, 0, 0, false), true);
        due.is("off then", x.off(0, 0, 0, 0), -300);
    }

    @Says("Terms: PEOPLE (0 .. 999)")
    void peopleFrom0To999() {
        HourLines x = new HourLines(2, 2);
        due.is("people 999", x.cell(3, 0, 999, 0, 0, false), true);
        due.is("people then", x.about(13), 999);
        due.is("people 0", x.cell(3, 0, 0, 0, 0, false), true);
        due.is("people then", x.about(13), 0);
    }

    @Says("Terms: a STATE (0 .. 5)")
    void stateFrom0To5() {
        HourLines x = open();
        due.is("state 5", x.cell(3, 0, 0, 5, 0, false), true);
        due.is("it pays", x.pays(3, 0), 60);
        due.is("state 0", x.cell(3, 0, 0, 0, 0, false), true);
        due.is("it pays", x.pays(3, 0), 0);
    }

    @Says("Terms: BEGIN (0 .. 900: minutes of its clock at which work begins)")
    void beginFrom0To900() {
        HourLines x = open();
        due.is("begin 900", x.cell(0, 0, 0, 0, 900, false), true);
        due.is("dark then", x.off(0, 0, 0, 1), 120);
        due.is("begin 0", x.cell(0, 0, 0, 0, 0, false), true);
        due.is("dark then", x.off(0, 0, 0, 1), 1020);
    }

    @Says("Terms: TOWN or not (at first 0, 0, 0, 480, not).")
    void cellsAtFirst() {
        HourLines x = open();
        for (int c = 0; c < 4; c++) {
            cellIs(x, c, 0, 300, 720 - (480 - 300), 0, false);
        }
    }

    @Says("Terms: TIES (40 at most) between two CELLS: WEIGHT (1 .. 99).")
    void fortyTiesNoMore() {
        HourLines x = new HourLines(2, 2);
        due.is("no tie at first", x.about(3), 0);
        for (int i = 1; i <= 40; i++) {
            due.is("tie " + i, x.tie(0, 1, 1), i);
        }
        due.is("the 41st", x.tie(0, 1, 1), -1);
        due.is("ties", x.about(3), 40);
    }

    @Says("Terms: TIES (40 at most) between two CELLS: WEIGHT (1 .. 99).")
    void weightFrom1To99() {
        HourLines x = land(0, 1);
        x.part(0, 1);
        due.is("weight 1", x.tie(0, 1, 1), 1);
        due.is("ties pay", x.judge(2), 1);
        due.is("weight 99", x.tie(0, 1, 99), 2);
        due.is("ties pay", x.judge(2), 100);
    }

    @Says("Terms: HOURS 0 .. 3, told one by one:")
    void fourHoursNoMore() {
        HourLines x = new HourLines(2, 2);
        due.is("no hour at first", x.about(2), 0);
        for (int i = 0; i < 4; i++) {
            due.is("hour", x.hour(10 + i), i);
            due.is("hours", x.about(2), i + 1);
        }
        due.is("a fifth", x.hour(20), -1);
        due.is("hours", x.about(2), 4);
    }

    @Says("Terms: OFFSET (0 .. 300 minutes, above that of the one ahead;")
    void offsetFrom0To300() {
        HourLines x = new HourLines(2, 2);
        due.is("offset 0", x.hour(0), 0);
        due.is("off by it", x.off(0, 0, 0, 0), 0);
        due.is("offset 300", x.hour(300), 1);
        due.is("off by it", x.off(0, 1, 0, 0), 300);
    }

    @Says("Terms: OFFSET (0 .. 300 minutes, above that of the one ahead;")
    void offsetAboveTheOneAhead() {
        HourLines x = land(100, 150);
        due.is("that of the first", x.hour(100), -1);
        due.is("below that of the one ahead", x.hour(149), -1);
        due.is("that of the one ahead", x.hour(150), -1);
        due.is("a minute above it", x.hour(151), 2);
    }

    @Says({"Terms: a clock is ahead of another one by how much more its OFFSET is).",
        "Terms: OFF of a CELL by an HOUR: OFFSET - SUN."})
    void offBelowAndAbove0() {
        HourLines x = land(0, 300);
        x.cell(0, 300, 0, 0, 0, false);
        x.cell(1, 0, 0, 0, 0, false);
        x.cell(2, 300, 0, 0, 0, false);
        due.is("the least", x.off(0, 0, 0, 0), -300);
        due.is("the most", x.off(1, 1, 0, 0), 300);
        due.is("none", x.off(2, 1, 0, 0), 0);
    }

    @Says("Terms: MONTHS 0 .. 11: RISE (0 .. 720; at first 360: minutes of the sun's day at which it rises).")
    void riseFrom0To720() {
        HourLines x = land(0);
        x.cell(0, 0, 0, 0, 0, false);
        due.is("rise 720", x.rise(0, 720), true);
        due.is("dark then", x.off(0, 0, 0, 1), 720);
        due.is("rise 0", x.rise(0, 0), true);
        due.is("dark then", x.off(0, 0, 0, 1), 0);
    }

    @Says("Terms: MONTHS 0 .. 11: RISE (0 .. 720; at first 360: minutes of the sun's day at which it rises).")
    void riseAtFirstInEachMonth() {
        HourLines x = land(0);
        x.cell(0, 0, 0, 0, 0, false);
        for (int m = 0; m < 12; m++) {
            due.is("month " + m, x.off(0, 0, m, 1), 360);
        }
    }

    private void inSummer(int a, int b, String months) {
        HourLines x = land(0);
        due.is("summer(" + a + ", " + b + ")", x.summer(a, b), true);
        due.is("its a", x.about(6), a);
        due.is("its b", x.about(7), b);
        for (int m = 0; m < 12; m++) {
            due.is("summer " + a + " to " + b + ", month " + m, x.off(0, 0, m, 0), months.charAt(m) == 'x' ? 60 : 0);
        }
    }

    @Says({"Terms: SUMMER: MONTHS from a to b (round the year, both; at first none) in which OFF is 60 more.",
        "Promise 6: SUMMER from a to b"})
    void summerHasBothEnds() {
        inSummer(3, 5, "---xxx------");
        inSummer(0, 11, "xxxxxxxxxxxx");
    }

    @Says("Terms: SUMMER: MONTHS from a to b (round the year, both; at first none) in which OFF is 60 more.")
    void summerOfOneMonth() {
        inSummer(0, 0, "x-----------");
        inSummer(5, 5, "-----x------");
        inSummer(11, 11, "-----------x");
    }

    @Says("Terms: SUMMER: MONTHS from a to b (round the year, both; at first none) in which OFF is 60 more.")
    void summerRoundTheYear() {
        inSummer(11, 0, "x----------x");
        inSummer(9, 2, "xxx------xxx");
        inSummer(1, 0, "xxxxxxxxxxxx");
        inSummer(6, 5, "xxxxxxxxxxxx");
        inSummer(7, 5, "xxxxxx-xxxxx");
    }

    @Says("Terms: SUMMER: MONTHS from a to b (round the year, both; at first none) in which OFF is 60 more.")
    void noSummerAtFirst() {
        HourLines x = land(0);
        for (int m = 0; m < 12; m++) {
            due.is("month " + m, x.off(0, 0, m, 0), 0);
        }
        due.is("its a", x.about(6), -1);
        due.is("its b", x.about(7), -1);
    }

    @Says("Terms: KEPT: a CELL must have an HOUR (told), or any (at first).")
    void anyHourAtFirst() {
        HourLines x = land(0, 10);
        for (int c = 0; c < 4; c++) {
            due.is("kept " + c, x.about(70 + c), -1);
            due.is("best by 1 alone", x.best(2, false, c), 1);
        }
    }

    @Says("Terms: PARTING: an HOUR of each CELL (told; at first 0).")
    void hour0AtFirst() {
        HourLines x = land(5, 10);
        for (int c = 0; c < 4; c++) {
            due.is("hour of " + c, x.about(40 + c), 0);
        }
        due.is("one piece", x.judge(3), 1);
    }

    // Promise 2

    @Says("Promise 2: SUN, PEOPLE, STATE, BEGIN, TOWN of a CELL: true.")
    void cellAtItsLeast() {
        HourLines x = open();
        x.cell(0, 1, 1, 1, 1, true);
        due.is("cell", x.cell(0, 0, 0, 0, 0, false), true);
        cellIs(x, 0, 0, 300, 1020, 0, false);
    }

    @Says("Promise 2: SUN, PEOPLE, STATE, BEGIN, TOWN of a CELL: true.")
    void cellAtItsMost() {
        HourLines x = open();
        due.is("cell", x.cell(3, 300, 999, 5, 900, true), true);
        cellIs(x, 3, 999, 0, 0, 5, true);
        cellIs(x, 2, 0, 300, 540, 0, false);
    }

    @Says("Promise 2: False, changing nothing, for others.")
    void noCellBelow0() {
        refusesCell(-1, 0, 0, 0, 0);
        refusesCell(MIN, 0, 0, 0, 0);
    }

    @Says("Promise 2: False, changing nothing, for others.")
    void noCellBehindTheLast() {
        refusesCell(4, 0, 0, 0, 0);
        refusesCell(MAX, 0, 0, 0, 0);
        HourLines x = new HourLines(6, 4);
        due.is("cell 23 of 24", x.cell(23, 0, 0, 0, 0, false), true);
        due.is("cell 24 of 24", x.cell(24, 0, 0, 0, 0, false), false);
    }

    @Says("Promise 2: False, changing nothing, for others.")
    void noSunBelow0OrAbove300() {
        refusesCell(1, -1, 0, 0, 0);
        refusesCell(1, 301, 0, 0, 0);
        refusesCell(1, MIN, 0, 0, 0);
        refusesCell(1, MAX, 0, 0, 0);
    }

    @Says("Promise 2: False, changing nothing, for others.")
    void noPeopleBelow0OrAbove999() {
        refusesCell(1, 0, -1, 0, 0);
        refusesCell(1, 0, 1000, 0, 0);
        refusesCell(1, 0, MIN, 0, 0);
        refusesCell(1, 0, MAX, 0, 0);
    }

    @Says("Promise 2: False, changing nothing, for others.")
    void noStateBelow0OrAbove5() {
        refusesCell(1, 0, 0, -1, 0);
        refusesCell(1, 0, 0, 6, 0);
        refusesCell(1, 0, 0, MIN, 0);
        refusesCell(1, 0, 0, MAX, 0);
    }

    @Says("Promise 2: False, changing nothing, for others.")
    void noBeginBelow0OrAbove900() {
        refusesCell(1, 0, 0, 0, -1);
        refusesCell(1, 0, 0, 0, 901);
        refusesCell(1, 0, 0, 0, MIN);
        refusesCell(1, 0, 0, 0, MAX);
    }

    // Promise 3

    private void refusesTie(int one, int other, int weight) {
        HourLines x = land(0, 10);
        x.part(0, 1);
        x.tie(0, 1, 5);
        String before = shown(x);
        due.is("tie(" + one + ", " + other + ", " + weight + ")", x.tie(one, other, weight), -1);
        due.holds("no tie comes of it", shown(x).equals(before));
    }

    @Says("Promise 3: A TIE: how many there are.")
    void tiesAreCounted() {
        HourLines x = land(0, 10);
        x.part(0, 1);
        due.is("the first", x.tie(0, 3, 2), 1);
        due.is("the same again", x.tie(0, 3, 2), 2);
        due.is("the other way", x.tie(3, 0, 2), 3);
        due.is("each of them pays", x.judge(2), 60);
        due.is("between the first two", x.tie(1, 0, 1), 4);
    }

    @Says("Promise 3: NONE for others,")
    void noTieFromOutside() {
        refusesTie(-1, 0, 5);
        refusesTie(4, 0, 5);
        refusesTie(MIN, 0, 5);
        refusesTie(MAX, 0, 5);
    }

    @Says("Promise 3: NONE for others,")
    void noTieToOutside() {
        refusesTie(0, -1, 5);
        refusesTie(0, 4, 5);
        refusesTie(0, MIN, 5);
        refusesTie(0, MAX, 5);
    }

    @Says("Promise 3: NONE for others,")
    void noTieOfAWeightBelow1OrAbove99() {
        refusesTie(0, 1, 0);
        refusesTie(0, 1, 100);
        refusesTie(0, 1, -1);
        refusesTie(0, 1, MIN);
        refusesTie(0, 1, MAX);
    }

    @Says("Promise 3: one and the same CELL,")
    void noTieToItself() {
        for (int c = 0; c < 4; c++) {
            refusesTie(c, c, 5);
        }
    }

    @Says("Promise 3: or if there are 40.")
    void noTieBehind40() {
        HourLines x = land(0, 10);
        x.part(0, 1);
        for (int i = 0; i < 39; i++) {
            x.tie(1, 2, 1);
        }
        due.is("the 40th", x.tie(0, 1, 3), 40);
        due.is("the 41st", x.tie(0, 1, 5), -1);
        due.is("ties", x.about(3), 40);
        due.is("the 40th pays alone", x.judge(2), 30);
    }

    // Promise 4

    @Says("Promise 4: An HOUR: its number.")
    void hoursHaveTheirNumbers() {
        HourLines x = new HourLines(2, 2);
        due.is("the first may be any", x.hour(297), 0);
        due.is("the second", x.hour(298), 1);
        due.is("the third", x.hour(299), 2);
        due.is("the last", x.hour(300), 3);
    }

    @Says("Promise 4: NONE for others,")
    void noHourBelow0OrAbove300() {
        for (int offset : new int[] {-1, 301, MIN, MAX}) {
            HourLines x = new HourLines(2, 2);
            due.is("hour(" + offset + ")", x.hour(offset), -1);
            due.is("hours", x.about(2), 0);
            due.is("the next has number 0", x.hour(5), 0);
        }
    }

    @Says("Promise 4: NONE for others,")
    void noHourThatIsNotAboveTheOneAhead() {
        for (int offset : new int[] {0, 99, 100}) {
            HourLines x = land(50, 100);
            due.is("hour(" + offset + ")", x.hour(offset), -1);
            due.is("hours", x.about(2), 2);
            due.is("off by the last", x.off(0, 1, 0, 0), 100);
        }
    }

    @Says("Promise 4: NONE for others,")
    void noHourBehindOffset300() {
        HourLines x = land(300);
        due.is("hour(300)", x.hour(300), -1);
        due.is("hour(301)", x.hour(301), -1);
        due.is("hours", x.about(2), 1);
    }

    @Says("Promise 4: or if there are 4.")
    void noFifthHour() {
        HourLines x = land(0, 1, 2, 3);
        due.is("a fifth", x.hour(4), -1);
        due.is("hours", x.about(2), 4);
        due.is("off by the last", x.off(0, 3, 0, 0), 3);
        due.is("off by a fifth", x.off(0, 4, 0, 0), NO_MINUTES);
    }

    // Promise 5

    private void refusesRise(int month, int v) {
        HourLines x = land(300);
        String before = shown(x);
        due.is("rise(" + month + ", " + v + ")", x.rise(month, v), false);
        due.holds("nothing is changed by it", shown(x).equals(before));
    }

    @Says("Promise 5: RISE of a MONTH: true.")
    void riseOfTheFirstAndTheLastMonth() {
        HourLines x = land(300);
        due.is("month 0", x.rise(0, 720), true);
        due.is("month 11", x.rise(11, 0), true);
        due.is("dark in month 0", x.off(0, 0, 0, 1), 540);
        due.is("dark in month 1", x.off(0, 0, 1, 1), 180);
        due.is("dark in month 10", x.off(0, 0, 10, 1), 180);
        due.is("dark in month 11", x.off(0, 0, 11, 1), 0);
    }

    @Says("Promise 5: False for others.")
    void noRiseOfNoMonth() {
        refusesRise(-1, 100);
        refusesRise(12, 100);
        refusesRise(MIN, 100);
        refusesRise(MAX, 100);
    }

    @Says("Promise 5: False for others.")
    void noRiseBelow0OrAbove720() {
        refusesRise(0, -1);
        refusesRise(0, 721);
        refusesRise(0, MIN);
        refusesRise(0, MAX);
    }

    // Promise 6

    private void refusesSummer(int a, int b) {
        HourLines x = land(0);
        x.summer(2, 4);
        String before = shown(x);
        due.is("summer(" + a + ", " + b + ")", x.summer(a, b), false);
        due.holds("it stays", shown(x).equals(before));
    }

    @Says({"Promise 6: (a NONE: none): true."})
    void summerOfNone() {
        for (int b : new int[] {-1, 0, 11, 12, -2, MIN, MAX}) {
            HourLines x = land(0);
            x.summer(0, 11);
            due.is("summer(-1, " + b + ")", x.summer(-1, b), true);
            due.is("its a", x.about(6), -1);
            due.is("its b", x.about(7), -1);
            for (int m = 0; m < 12; m++) {
                due.is("month " + m, x.off(0, 0, m, 0), 0);
            }
        }
    }

    @Says("Promise 6: False for others.")
    void noSummerFromNoMonth() {
        refusesSummer(-2, 5);
        refusesSummer(12, 5);
        refusesSummer(MIN, 5);
        refusesSummer(MAX, 5);
    }

    @Says("Promise 6: False for others.")
    void noSummerToNoMonth() {
        refusesSummer(0, -1);
        refusesSummer(0, 12);
        refusesSummer(11, MIN);
        refusesSummer(11, MAX);
    }

    // Promise 7

    private void refusesKeep(int cell, int hour) {
        HourLines x = land(0, 10);
        x.keep(1, 1);
        String before = shown(x);
        due.is("keep(" + cell + ", " + hour + ")", x.keep(cell, hour), false);
        due.holds("all stays", shown(x).equals(before));
    }

    @Says("Promise 7: A CELL is KEPT for an HOUR that is told")
    void keptForTheFirstAndTheLastHour() {
        HourLines x = land(0, 1, 2, 3);
        due.is("for hour 0", x.keep(0, 0), true);
        due.is("for hour 3", x.keep(3, 3), true);
        due.is("cell 0", x.about(70), 0);
        due.is("cell 3", x.about(73), 3);
        due.is("cell 1", x.about(71), -1);
    }

    @Says("Promise 7: (NONE: any): true.")
    void keptForAny() {
        HourLines x = new HourLines(2, 2);
        due.is("without hours", x.keep(0, -1), true);
        x.hour(0);
        x.keep(0, 0);
        due.is("for any again", x.keep(0, -1), true);
        due.is("kept", x.about(70), -1);
    }

    @Says("Promise 7: False for others.")
    void notKeptForAnHourThatIsNotTold() {
        refusesKeep(1, 2);
        refusesKeep(1, 3);
        refusesKeep(1, -2);
        refusesKeep(1, MIN);
        refusesKeep(1, MAX);
        due.is("without hours", new HourLines(2, 2).keep(0, 0), false);
    }

    @Says("Promise 7: False for others.")
    void noOtherCellIsKept() {
        refusesKeep(-1, 0);
        refusesKeep(4, 0);
        refusesKeep(4, -1);
        refusesKeep(MIN, -1);
        refusesKeep(MAX, 0);
    }

    // Promise 8

    private void refusesPart(int cell, int hour) {
        HourLines x = land(0, 10);
        x.part(1, 1);
        String before = shown(x);
        due.is("part(" + cell + ", " + hour + ")", x.part(cell, hour), false);
        due.holds("THE PARTING stays", shown(x).equals(before));
    }

    @Says("Promise 8: THE PARTING: a CELL has an HOUR that is told: true.")
    void partToTheFirstAndTheLastHour() {
        HourLines x = land(0, 1, 2, 3);
        due.is("to hour 3", x.part(0, 3), true);
        due.is("to hour 3", x.part(3, 3), true);
        due.is("to hour 0", x.part(0, 0), true);
        due.is("cell 0", x.about(40), 0);
        due.is("cell 3", x.about(43), 3);
    }

    @Says("Promise 8: False for others.")
    void noPartToAnHourThatIsNotTold() {
        refusesPart(1, 2);
        refusesPart(1, -1);
        refusesPart(1, MIN);
        refusesPart(1, MAX);
        due.is("without hours", new HourLines(2, 2).part(0, 0), false);
    }

    @Says("Promise 8: False for others.")
    void noPartOfAnotherCell() {
        refusesPart(-1, 0);
        refusesPart(4, 0);
        refusesPart(MIN, 0);
        refusesPart(MAX, 0);
    }

    // Promises 31 and 32

    /** A land in which everything is told. */
    private static HourLines full() {
        HourLines x = land(10, 70);
        x.cell(0, 1, 2, 3, 4, true);
        x.tie(0, 1, 2);
        x.rise(0, 700);
        x.summer(1, 2);
        x.keep(1, 1);
        x.part(0, 1);
        x.stop(0, 0, 5);
        Tape.rule(x, "cost 3 + dark;");
        return x;
    }

    @Says({"Promise 31: how many HOURS there are.", "Promise 32: how many HOURS there are."})
    void imageAndBackCountHours() {
        HourLines x = new HourLines(2, 2);
        for (int i = 0; i <= 4; i++) {
            due.is("image by " + i, x.image(), i);
            due.is("back by " + i, x.back(), i);
            x.hour(i);
        }
        due.is("image", x.image(), 4);
    }

    @Says({"Promise 31: THE IMAGE is as all is now:", "Promise 32: BACK to THE IMAGE",
        "Terms: BACK: all is so again."})
    void allIsSoAgain() {
        HourLines x = full();
        String before = shown(x);
        x.image();
        x.hour(71);
        x.cell(0, 5, 6, 0, 8, false);
        x.cell(1, 5, 6, 0, 8, false);
        x.tie(0, 1, 3);
        x.rise(0, 720);
        x.summer(-1, -1);
        x.keep(1, -1);
        x.part(0, 2);
        x.stop(0, 1, 5);
        Tape.rule(x, "cost 4;");
        due.holds("all is otherwise", !shown(x).equals(before));
        due.is("back", x.back(), 2);
        due.holds("all is so again", shown(x).equals(before));
    }

    @Says("Promise 32: (it stays)")
    void theImageStays() {
        HourLines x = full();
        String before = shown(x);
        x.image();
        for (int i = 0; i < 3; i++) {
            x.cell(0, 9, 9, 1, 9, false);
            x.tie(2, 3, 1);
            x.rise(0, 1);
            x.stop(0, 1, 1);
            x.keep(1, 0);
            x.part(0, 0);
            due.is("back", x.back(), 2);
            due.holds("all is so again", shown(x).equals(before));
        }
    }

    @Says("Promise 31: THE IMAGE is as all is now:")
    void aNewImageTakesTheOldOnesPlace() {
        HourLines x = land(1);
        x.image();
        x.hour(2);
        x.part(0, 1);
        due.is("image", x.image(), 2);
        x.part(0, 0);
        due.is("back", x.back(), 2);
        due.is("the later one", x.about(40), 1);
    }

    @Says("Terms: AN IMAGE: all as it is, but the tape and the latest FAULT.")
    void backLeavesTheTape() {
        HourLines x = new HourLines(2, 2);
        x.image();
        Tape.put(x, "cost 1;");
        x.back();
        due.is("bytes", x.about(8), 7);
        due.is("it is a text", x.text(), 0);
        x.image();
        Tape.put(x, "ab");
        x.image();
        x.end(0);
        x.back();
        due.is("no bytes come back", x.about(8), 0);
    }

    @Says("Terms: AN IMAGE: all as it is, but the tape and the latest FAULT.")
    void backLeavesTheFault() {
        HourLines x = new HourLines(2, 2);
        x.image();
        Tape.tell(x, "cost 10000;");
        x.image();
        due.is("fault", x.fault(0), 2);
        Tape.tell(x, "cost");
        x.back();
        due.is("the later fault", x.fault(0), 1);
        due.is("its place", x.fault(1), 4);
        Tape.tell(x, "");
        x.back();
        due.is("no fault", x.fault(0), 0);
        due.is("no place", x.fault(1), -1);
    }

    @Says("Terms: BACK: all is so again.")
    void laterTextsAreGone() {
        HourLines x = land(0);
        Tape.tell(x, "cost 1;");
        x.image();
        Tape.rule(x, "cost 2;");
        Tape.tell(x, "cost 3;");
        x.back();
        due.is("texts", x.about(4), 1);
        due.is("THE TEXT", x.about(5), -1);
        due.is("text 1 rules", x.by(1), false);
        due.is("text 1 anew", Tape.tell(x, "cost 4;"), 1);
        x.by(1);
        due.is("it pays", x.pays(0, 0), 48);
        x.by(0);
        due.is("text 0 is the same", x.pays(0, 0), 12);
    }

    @Says("Terms: BACK: all is so again.")
    void peopleAndPartingAheadOfTheYears() {
        HourLines x = land(0, 60);
        x.cell(0, 60, 100, 0, 480, false);
        Tape.rule(x, "grow 50;");
        x.image();
        due.is("moved", x.years(2, true), 1);
        due.is("people", x.about(10), 225);
        x.back();
        due.is("people again", x.about(10), 100);
        due.is("its hour again", x.about(40), 0);
        due.is("it pays", x.pays(0, 0), 60 * 100 * 12);
    }

    // Promise 33

    @Says("Promise 33: 0 W, 1 H, 2 HOURS, 3 TIES, 4 TEXTS, 5 THE TEXT (NONE), 6 SUMMER's a (NONE), 7 its b (NONE), "
        + "8 bytes of the tape,")
    void aboutTheLand() {
        HourLines x = new HourLines(5, 3);
        int[] first = {5, 3, 0, 0, 0, -1, -1, -1, 0};
        for (int i = 0; i < first.length; i++) {
            due.is("about(" + i + ") at first", x.about(i), first[i]);
        }
        x.hour(1);
        x.tie(0, 14, 1);
        x.tie(0, 14, 1);
        Tape.rule(x, "");
        Tape.tell(x, "");
        Tape.tell(x, "");
        x.summer(10, 4);
        Tape.put(x, "123456");
        int[] then = {5, 3, 1, 2, 3, 0, 10, 4, 6};
        for (int i = 0; i < then.length; i++) {
            due.is("about(" + i + ") then", x.about(i), then[i]);
        }
    }

    @Says("Promise 33: 10 + cell: its PEOPLE, 40 + cell: its HOUR by THE PARTING, 70 + cell: KEPT (NONE).")
    void aboutEachCell() {
        for (int[] size : new int[][] {{2, 2}, {6, 4}}) {
            HourLines x = sized(size[0], size[1], 0, 1, 2);
            int cells = size[0] * size[1];
            for (int c = 0; c < cells; c++) {
                due.is("kept at first", x.about(70 + c), -1);
                x.cell(c, 0, 100 + c, 0, 0, false);
                x.part(c, c % 3);
                x.keep(c, c * 2 % 3);
            }
            for (int c = 0; c < cells; c++) {
                due.is("people of " + c, x.about(10 + c), 100 + c);
                due.is("hour of " + c, x.about(40 + c), c % 3);
                due.is("kept " + c, x.about(70 + c), c * 2 % 3);
            }
        }
    }

    @Says("Promise 33: -2 for others.")
    void aboutNothingElse() {
        for (int what : new int[] {-1, -2, 9, 39, 69, 94, 100, MIN, MIN + 9, MIN + 10, MIN + 39, MIN + 40, MIN + 70, MAX}) {
            due.is("about(" + what + ") of the largest", new HourLines(6, 4).about(what), -2);
        }
        for (int what : new int[] {14, 33, 44, 63, 74, 93}) {
            due.is("about(" + what + ") of the smallest", new HourLines(2, 2).about(what), -2);
        }
        for (int what : new int[] {34, 64, 94}) {
            due.is("about(" + what + ") of the largest", new HourLines(6, 4).about(what), -2);
        }
    }

    public static void main(String[] args) throws ReflectiveOperationException {
        new LandBoundsTest().run();
    }
}
