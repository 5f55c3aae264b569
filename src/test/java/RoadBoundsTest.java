/** Where trains and years end: each bound that promises 26 to 29, and their terms, name has a test of its own. */
public final class RoadBoundsTest extends Sentences {

    // Promise 26

    private void refusesStop(int train, int cell, int minutes) {
        HourLines x = land(0);
        x.stop(0, 1, 10);
        String before = shown(x);
        due.is("stop(" + train + ", " + cell + ", " + minutes + ")", x.stop(train, cell, minutes), -1);
        due.holds("no stop comes of it", shown(x).equals(before));
        due.is("the next is the second", x.stop(0, 1, 10), 2);
    }

    @Says({"Promise 26: A STOP of a TRAIN: how many it has.", "Terms: TRAINS 0 .. 5: up to 12 STOPS,"})
    void twelveStopsOfEachTrain() {
        HourLines x = land(0);
        for (int i = 1; i <= 12; i++) {
            for (int train = 0; train <= 5; train++) {
                due.is("stop " + i + " of train " + train, x.stop(train, i % 4, 10 * train + 1), i);
            }
        }
        for (int train = 0; train <= 5; train++) {
            due.is("the last clock of train " + train, x.clock(train, 11), 12 * (10 * train + 1));
        }
    }

    @Says("Promise 26: or if it has 12.")
    void noThirteenthStop() {
        HourLines x = land(0);
        for (int i = 1; i <= 12; i++) {
            x.stop(2, 0, 1);
            x.stop(3, 0, 2);
        }
        due.is("a thirteenth", x.stop(2, 0, 999), -1);
        due.is("its last clock", x.clock(2, 11), 12);
        due.is("none behind it", x.clock(2, 12), NO_MINUTES);
        due.is("the next train's first clock", x.clock(3, 0), 2);
        due.is("another train", x.stop(1, 0, 1), 1);
    }

    @Says("Promise 26: NONE for others,")
    void noStopOfAnotherTrain() {
        refusesStop(-1, 0, 1);
        refusesStop(6, 0, 1);
        refusesStop(MIN, 0, 1);
        refusesStop(MAX, 0, 1);
    }

    @Says("Promise 26: NONE for others,")
    void noStopAtAnotherCell() {
        refusesStop(0, -1, 1);
        refusesStop(0, 4, 1);
        refusesStop(0, MIN, 1);
        refusesStop(0, MAX, 1);
        due.is("the last of 24", new HourLines(6, 4).stop(0, 23, 1), 1);
        due.is("none behind it", new HourLines(6, 4).stop(0, 24, 1), -1);
    }

    @Says("Promise 26: NONE for others,")
    void noStopOfMinutesBelow1OrAbove999() {
        refusesStop(0, 0, 0);
        refusesStop(0, 0, 1000);
        refusesStop(0, 0, -1);
        refusesStop(0, 0, MIN);
        refusesStop(0, 0, MAX);
    }

    @Says("Terms: each a CELL and MINUTES (1 .. 999;")
    void minutesFrom1To999() {
        HourLines x = land(0);
        due.is("1", x.stop(0, 0, 1), 1);
        due.is("999", x.stop(0, 0, 999), 2);
        due.is("999 as it leaves", x.stop(1, 0, 999), 1);
        due.is("its clock", x.clock(0, 1), 1000);
        due.is("the other's", x.clock(1, 0), 999);
    }

    // Promise 27

    @Says("Promise 27: and without HOURS.")
    void noClockWithoutHours() {
        HourLines x = new HourLines(2, 2);
        x.stop(0, 0, 5);
        due.is("clock(0, 0)", x.clock(0, 0), NO_MINUTES);
    }

    @Says("Promise 27: -100000 for others,")
    void noClockOfAnotherTrain() {
        HourLines x = land(0);
        x.stop(0, 0, 5);
        x.stop(5, 0, 6);
        due.is("train 5", x.clock(5, 0), 6);
        for (int train : new int[] {-1, 6, MIN, MAX}) {
            due.is("clock(" + train + ", 0)", x.clock(train, 0), NO_MINUTES);
        }
        due.is("one without stops", x.clock(1, 0), NO_MINUTES);
    }

    @Says("Promise 27: -100000 for others,")
    void noClockAtAnotherStop() {
        HourLines x = land(0);
        x.stop(1, 0, 5);
        x.stop(1, 0, 5);
        x.stop(2, 0, 5);
        for (int k : new int[] {-1, 2, 3, 12, MIN, MAX}) {
            due.is("clock(1, " + k + ")", x.clock(1, k), NO_MINUTES);
        }
    }

    @Says({"Promise 27: A TRAIN's clock at its k-th STOP (0 the first) by THE PARTING.",
        "Terms: of the first: the clock there as it leaves) that it goes on to it from the STOP ahead.",
        "Terms: ARRIVES by THE PARTING: by its clock there;"})
    void clocksAheadAndBehind() {
        HourLines x = land(0, 300);
        x.part(1, 1);
        x.stop(0, 1, 5);
        x.stop(0, 0, 7);
        x.stop(0, 1, 1);
        due.is("as it leaves, by its own clock", x.clock(0, 0), 5);
        due.is("below 0", x.clock(0, 1), 12 - 300);
        due.is("there again", x.clock(0, 2), 13);
        x.part(1, 0);
        due.is("by one clock", x.clock(0, 1), 12);
    }

    @Says("Terms: ARRIVES by THE PARTING: by its clock there;")
    void clocksBeyondTheDay() {
        HourLines x = land(0, 300);
        x.part(1, 1);
        for (int i = 0; i < 12; i++) {
            x.stop(0, i == 11 ? 1 : 0, 999);
        }
        due.is("the latest there is", x.clock(0, 11), 12 * 999 + 300);
    }

    // Promise 28

    @Says("Promise 28: and without HOURS.")
    void noEarlyWithoutHours() {
        HourLines x = new HourLines(2, 2);
        x.stop(0, 0, 5);
        x.stop(0, 1, 5);
        due.is("early(0)", x.early(0), -1);
    }

    @Says("Promise 28: NONE: none, for others,")
    void noEarlyOfAnotherTrain() {
        HourLines x = land(0, 60);
        x.part(1, 1);
        for (int train = 0; train <= 5; train++) {
            x.stop(train, 1, 5);
            x.stop(train, 0, 5);
        }
        due.is("train 0", x.early(0), 1);
        due.is("train 5", x.early(5), 1);
        for (int train : new int[] {-1, 6, MIN, MAX}) {
            due.is("early(" + train + ")", x.early(train), -1);
        }
    }

    @Says("Promise 28: EARLY. NONE: none,")
    void noEarlyWithoutOrByOneStop() {
        HourLines x = land(0, 60);
        x.part(1, 1);
        due.is("without stops", x.early(0), -1);
        x.stop(0, 1, 1);
        due.is("one stop", x.early(0), -1);
        x.stop(0, 1, 1);
        due.is("never early", x.early(0), -1);
    }

    @Says("Terms: EARLY: the first STOP at which it arrives, by clocks, ahead of when it was at the STOP ahead.")
    void asLateAsItWasIsNotEarly() {
        for (int minutes = 59; minutes <= 61; minutes++) {
            HourLines x = land(0, 60);
            x.part(1, 1);
            x.stop(0, 1, 500);
            x.stop(0, 0, minutes);
            due.is("after " + minutes, x.early(0), minutes < 60 ? 1 : -1);
        }
    }

    @Says("Terms: EARLY: the first STOP at which it arrives, by clocks, ahead of when it was at the STOP ahead.")
    void theFirstAndTheLastStopAtWhichItIsEarly() {
        HourLines x = land(0, 60);
        x.part(1, 1);
        for (int i = 0; i < 12; i++) {
            x.stop(0, i < 11 ? 1 : 0, 1);
            x.stop(1, i % 2 == 0 ? 1 : 0, 1);
            x.stop(2, i < 5 ? 0 : i == 8 ? 0 : 1, 1);
        }
        due.is("the last", x.early(0), 11);
        due.is("the first of many", x.early(1), 1);
        due.is("not where it is late", x.early(2), 8);
    }

    // Promise 29

    /** Cell 0 of so many people in hour 0, that like hour 1, and a text. */
    private static HourLines people(int people, String text) {
        HourLines x = land(0, 60);
        x.cell(0, 60, people, 0, 480, false);
        Tape.rule(x, text);
        return x;
    }

    private void grows(int people, String grow, int then) {
        HourLines x = people(people, "grow " + grow + ";");
        due.is("moved", x.years(1, false), 0);
        due.is(people + " by grow " + grow, x.about(10), then);
    }

    @Says({"Promise 29: NONE for others,", "Promise 29: So many YEARS (1 .. 60),"})
    void notLessThanOneYear() {
        for (int n : new int[] {0, -1, MIN}) {
            HourLines x = people(10, "grow 10;");
            String before = shown(x);
            due.is("years(" + n + ", true)", x.years(n, true), -1);
            due.is("years(" + n + ", false)", x.years(n, false), -1);
            due.holds("nothing grows", shown(x).equals(before));
        }
    }

    @Says({"Promise 29: NONE for others,", "Promise 29: So many YEARS (1 .. 60),"})
    void notMoreThanSixtyYears() {
        for (int n : new int[] {61, 62, 1000, MAX}) {
            HourLines x = people(10, "grow 10;");
            String before = shown(x);
            due.is("years(" + n + ", true)", x.years(n, true), -1);
            due.is("years(" + n + ", false)", x.years(n, false), -1);
            due.holds("nothing grows", shown(x).equals(before));
        }
    }

    @Says({"Promise 29: So many YEARS (1 .. 60),", "Terms: YEARS: each YEAR every CELL's PEOPLE grow"})
    void oneYearAndSixty() {
        HourLines x = people(100, "grow 1;");
        due.is("one", x.years(1, false), 0);
        due.is("people", x.about(10), 101);
        x = people(100, "grow if people < 200 ? 1 : 0 end;");
        due.is("sixty", x.years(60, false), 0);
        due.is("people", x.about(10), 160);
    }

    @Says("Promise 29: and without HOURS;")
    void noYearsWithoutHours() {
        HourLines x = new HourLines(2, 2);
        x.cell(0, 0, 10, 0, 480, false);
        Tape.rule(x, "grow 100;");
        due.is("years(1, true)", x.years(1, true), -1);
        due.is("years(1, false)", x.years(1, false), -1);
        due.is("people", x.about(10), 10);
    }

    @Says("Terms: every CELL's PEOPLE grow by PEOPLE * grow / 100, cut")
    void growthIsCutTowards0() {
        grows(199, "1", 200);
        grows(99, "1", 99);
        grows(100, "1", 101);
        grows(199, "-1", 198);
        grows(99, "-1", 99);
        grows(100, "-1", 99);
        grows(150, "-99", 150 - 148);
        grows(1, "99", 1);
        grows(1, "-99", 1);
    }

    @Says("Terms: (without 0; -100 at least, 100 at most; month 0),")
    void withoutGrowNothingGrows() {
        HourLines x = people(100, "cost 1; stay 1 = 1;");
        due.is("moved", x.years(60, false), 0);
        due.is("people", x.about(10), 100);
        x.by(-1);
        x.years(60, false);
        due.is("people without a text", x.about(10), 100);
        grows(100, "0", 100);
    }

    @Says("Terms: (without 0; -100 at least, 100 at most; month 0),")
    void grow100AtMost() {
        grows(100, "99", 199);
        grows(100, "100", 200);
        grows(100, "101", 200);
        grows(100, "1000 * 1000", 200);
    }

    @Says("Terms: (without 0; -100 at least, 100 at most; month 0),")
    void growMinus100AtLeast() {
        grows(100, "-99", 1);
        grows(100, "-100", 0);
        grows(100, "-101", 0);
        grows(100, "-1000 * 1000", 0);
    }

    @Says("Terms: (0 at least, 999 at most);")
    void people999AtMost() {
        grows(500, "99", 995);
        grows(499, "100", 998);
        grows(500, "100", 999);
        grows(999, "100", 999);
        grows(990, "1", 999);
        grows(999, "1", 999);
    }

    @Says("Terms: (0 at least, 999 at most);")
    void people0AtLeast() {
        grows(999, "-100", 0);
        grows(1, "-100", 0);
        grows(0, "-100", 0);
        grows(0, "100", 0);
        HourLines x = people(999, "grow -200;");
        due.is("moved", x.years(60, true), 0);
        due.is("none are left", x.about(10), 0);
    }

    @Says("Terms: (without 0; -100 at least, 100 at most; month 0),")
    void growInMonth0() {
        grows(100, "if month = 0 ? 7 : 8 end", 107);
        HourLines x = people(100, "grow off + 70;");
        x.years(1, false);
        due.is("no summer", x.about(10), 110);
        x.summer(1, 11);
        x.years(1, false);
        due.is("none in month 0", x.about(10), 121);
        x.summer(11, 0);
        x.years(1, false);
        due.is("one to month 0", x.about(10), 121 + 121 * 70 / 100);
        x.summer(0, 3);
        x.years(1, false);
        due.is("one from month 0", x.about(10), 205 + 205 * 70 / 100);
    }

    @Says("Terms: all by THE PARTING and PEOPLE as they are as the YEAR begins")
    void growByFortyTies() {
        HourLines x = people(100, "grow alone / 99;");
        for (int i = 0; i < 40; i++) {
            x.tie(i % 2, 1 - i % 2, 99);
        }
        x.years(1, false);
        due.is("in one hour", x.about(10), 100);
        x.part(1, 1);
        x.years(1, false);
        due.is("in two", x.about(10), 140);
    }

    @Says("Terms: all by THE PARTING and PEOPLE as they are as the YEAR begins")
    void asTheYearBegins() {
        HourLines x = land(0, 60);
        for (int c = 0; c < 4; c++) {
            x.cell(c, 60, 100, 0, 480, false);
        }
        x.tie(0, 1, 10);
        x.part(1, 1);
        Tape.rule(x, "grow alone + hour + people / 100;");
        // All go to hour 1 behind the first year: the second one's growth is by that.
        due.is("moved", x.years(1, true), 3);
        due.is("cell 0", x.about(10), 111);
        due.is("cell 1", x.about(11), 112);
        due.is("cell 2", x.about(12), 101);
        x.years(1, true);
        due.is("cell 0", x.about(10), 113);
        due.is("cell 1", x.about(11), 114);
        due.is("cell 2", x.about(12), 103);
    }

    @Says("Terms: then, if it is told so, THE PARTING is BEST by all HOURS (STATES not whole).")
    void bestAnewOnlyIfToldSo() {
        HourLines x = people(1, "grow 1;");
        due.is("not told so", x.years(60, false), 0);
        due.is("its hour", x.about(40), 0);
        due.is("told so", x.years(1, true), 1);
        due.is("its hour", x.about(40), 1);
        due.is("its state's other cells", x.about(41), 0);
    }

    @Says("Terms: then, if it is told so, THE PARTING is BEST by all HOURS (STATES not whole).")
    void bestByThePeopleOfTheYearsEnd() {
        HourLines x = people(50, "grow 100;");
        x.cell(1, 0, 90, 0, 480, false);
        x.keep(1, 0);
        for (int i = 0; i < 7; i++) {
            x.tie(0, 1, 99);
        }
        // Fifty people outweigh no seven ties, a hundred do.
        due.is("as they are", x.best(3, false, 0), 0);
        due.is("as they grow", x.years(1, true), 1);
    }

    @Says({"Promise 29: THE PARTING told anew in each or not: MOVED.",
        "Terms: MOVED: in how many CELLS THE PARTING is another one behind them."})
    void noneToAllMoved() {
        HourLines x = sized(6, 4, 0, 60);
        due.is("none", x.years(60, true), 0);
        for (int c = 0; c < 24; c++) {
            x.part(c, 1);
        }
        due.is("all", x.years(60, true), 24);
        x.part(23, 1);
        due.is("not told anew", x.years(1, false), 0);
        due.is("the last", x.years(1, true), 1);
    }

    @Says("Terms: MOVED: in how many CELLS THE PARTING is another one behind them.")
    void thereAndBackIsNotMoved() {
        HourLines x = people(100, "cost if hour = people / 200 ? 0 : 1 end; grow if hour = 0 ? 100 : -50 end;");
        due.is("there", x.years(1, true), 1);
        due.is("its hour", x.about(40), 1);
        due.is("back", x.years(1, true), 1);
        due.is("its hour", x.about(40), 0);
        due.is("there and back", x.years(2, true), 0);
        due.is("people", x.about(10), 100);
    }

    @Says("Promise 29: if BEST is none in a YEAR, THE PARTING stays in that.")
    void keptCellsOfOneStateLeaveABest() {
        // States are not whole here, and who is kept is kept for an hour that is told: BEST is never none.
        HourLines x = people(100, "grow 10;");
        x.keep(0, 0);
        x.keep(1, 1);
        due.is("whole there is none", x.best(3, true, -1), -1);
        due.is("moved", x.years(1, true), 1);
        due.is("cell 0", x.about(40), 0);
        due.is("cell 1", x.about(41), 1);
    }

    public static void main(String[] args) throws ReflectiveOperationException {
        new RoadBoundsTest().run();
    }
}
