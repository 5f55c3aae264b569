/** Where partings end: each bound that promises 16 to 20, and the terms that they rest on, name has a test of its own. */
public final class BestBoundsTest extends Sentences {

    /** Ten people in each cell, sun 0, 20, 40, 60, states 0 and 1, hours 0, 30, 60: a minute off is 120. */
    private static HourLines slope() {
        HourLines x = land(0, 30, 60);
        for (int c = 0; c < 4; c++) {
            x.cell(c, 20 * c, 10, c / 2, 480, false);
        }
        return x;
    }

    /** Six by four, by pictures: each sign is a cell's hour. */
    private static HourLines picture(String... rows) {
        HourLines x = sized(6, 4, 0, 1, 2, 3);
        for (int c = 0; c < 24; c++) {
            x.part(c, rows[c / 6].charAt(c % 6) - '0');
        }
        return x;
    }

    /** Cells 0 and 1 of one state that are kept apart, so that no parting keeps states whole. */
    private static HourLines apart() {
        HourLines x = land(0, 60);
        x.keep(0, 0);
        x.keep(1, 1);
        return x;
    }

    private void parted(String what, HourLines x, int hours, boolean whole, int... p) {
        for (int c = 0; c < p.length; c++) {
            due.is(what + ": cell " + c, x.best(hours, whole, c), p[c]);
        }
    }

    // Promise 16

    @Says("Promise 16: and without HOURS.")
    void noJudgingWithoutHours() {
        HourLines x = new HourLines(2, 2);
        x.cell(0, 0, 9, 1, 0, true);
        x.tie(0, 1, 5);
        for (int what = 0; what <= 5; what++) {
            due.is("judge(" + what + ")", x.judge(what), -1);
        }
    }

    @Says("Promise 16: NONE for others,")
    void noJudgingOfOthers() {
        HourLines x = slope();
        x.keep(3, 2);
        due.is("one is judged", x.judge(5), 3);
        for (int what : new int[] {-1, -2, 6, 7, MIN, MAX}) {
            due.is("judge(" + what + ")", x.judge(what), -1);
        }
    }

    @Says("Promise 16: THE PARTING: 0 PRICE, 1 what CELLS pay, 2 what TIES pay,")
    void aPriceOf0() {
        HourLines x = land(0, 10);
        x.tie(0, 1, 99);
        for (int what = 0; what <= 2; what++) {
            due.is("judge(" + what + ")", x.judge(what), 0);
        }
    }

    @Says({"Promise 16: THE PARTING: 0 PRICE, 1 what CELLS pay, 2 what TIES pay,",
        "Terms: PRICE of a PARTING: what all CELLS and all TIES pay."})
    void theHighestPrice() {
        HourLines x = sized(6, 4, 0, 300);
        for (int c = 0; c < 24; c++) {
            x.cell(c, c % 2 == 0 ? 300 : 0, 999, 0, 0, false);
            x.part(c, c % 2);
        }
        for (int i = 0; i < 40; i++) {
            x.tie(i % 12 * 2, i % 12 * 2 + 1, 99);
        }
        due.is("cells", x.judge(1), 300 * 999 * 12 * 24);
        due.is("ties", x.judge(2), 300 * 99 * 40);
        due.is("price", x.judge(0), 300 * 999 * 12 * 24 + 300 * 99 * 40);
        due.is("best", x.best(3, false, -1), 300 * 99 * 40);
        for (int c = 0; c < 24; c++) {
            x.keep(c, c % 2);
        }
        due.is("best, all kept", x.best(3, false, -1), 300 * 999 * 12 * 24 + 300 * 99 * 40);
        due.is("none of these can be whole", x.best(3, true, -1), -1);
        due.is("nor by one hour", x.best(1, false, -1), -1);
    }

    @Says("Terms: A TIE pays WEIGHT * |OFFSET - OFFSET| of the HOURS of its CELLS.")
    void aTiePaysEitherWay() {
        HourLines x = land(10, 25);
        x.tie(0, 1, 3);
        due.is("within an hour", x.judge(2), 0);
        x.part(0, 1);
        due.is("down", x.judge(2), 45);
        x.part(0, 0);
        x.part(1, 1);
        due.is("up", x.judge(2), 45);
        x.part(0, 1);
        due.is("within the other", x.judge(2), 0);
    }

    @Says({"Promise 16: 3 PIECES,", "Terms: A PIECE: CELLS of one HOUR that hang together by sides."})
    void onePieceToOneOfEachCell() {
        due.is("all", picture("222222", "222222", "222222", "222222").judge(3), 1);
        due.is("none beside its like", picture("010101", "101010", "010101", "101010").judge(3), 24);
        due.is("four hours", picture("012301", "230123", "012301", "230123").judge(3), 24);
    }

    @Says("Terms: A PIECE: CELLS of one HOUR that hang together by sides.")
    void cornersDontHangTogether() {
        HourLines x = land(0, 1);
        x.part(0, 1);
        x.part(3, 1);
        due.is("pieces", x.judge(3), 4);
    }

    @Says("Terms: A PIECE: CELLS of one HOUR that hang together by sides.")
    void rowsEndAtTheirEnds() {
        HourLines x = sized(3, 2, 0, 1);
        x.part(2, 1);
        x.part(3, 1);
        due.is("pieces", x.judge(3), 3);
        due.is("judged", x.judge(5), 3);
    }

    @Says("Terms: A PIECE: CELLS of one HOUR that hang together by sides.")
    void piecesThatWind() {
        due.is("in and out", picture("000000", "111110", "000010", "111110").judge(3), 3);
        due.is("up and down", picture("010001", "010101", "010101", "000100").judge(3), 4);
        due.is("from below alone", picture("101010", "101010", "101010", "111110").judge(3), 4);
    }

    @Says({"Promise 16: 4 DIVIDED,", "Terms: DIVIDED: STATES (that have CELLS) with CELLS of unlike HOURS."})
    void noStateToAllDivided() {
        HourLines x = sized(6, 4, 0, 1);
        for (int c = 0; c < 24; c++) {
            x.cell(c, 0, 0, c % 6, 0, false);
        }
        due.is("none", x.judge(4), 0);
        for (int c = 0; c < 6; c++) {
            x.part(23 - c, 1);
            due.is("divided", x.judge(4), c + 1);
        }
    }

    @Says("Terms: DIVIDED: STATES (that have CELLS) with CELLS of unlike HOURS.")
    void statesOfOneHourAreNotDivided() {
        HourLines x = land(0, 1);
        x.cell(3, 0, 0, 5, 0, false);
        x.part(3, 1);
        due.is("each state has one hour", x.judge(4), 0);
        x.cell(0, 0, 0, 5, 0, false);
        due.is("its first and its last cell", x.judge(4), 1);
    }

    @Says("Promise 16: 5 JUDGED (NONE: none).")
    void noneJudged() {
        HourLines x = land(0, 1);
        due.is("one piece", x.judge(5), -1);
        x.part(2, 1);
        x.part(3, 1);
        x.keep(0, 0);
        x.keep(3, 1);
        due.is("two pieces, kept for theirs", x.judge(5), -1);
    }

    @Says("Terms: JUDGED: the first CELL (by number) that has not the HOUR for which it is KEPT,")
    void theFirstAndTheLastCellJudgedAsKept() {
        HourLines x = sized(6, 4, 0, 1);
        x.keep(23, 1);
        due.is("the last", x.judge(5), 23);
        x.keep(0, 1);
        due.is("the first", x.judge(5), 0);
        x.keep(0, -1);
        due.is("kept for any", x.judge(5), 23);
    }

    @Says({"Terms: or is not of the PIECE of the lowest CELL of its HOUR; none.",
        "Terms: JUDGED: the first CELL (by number) that has not the HOUR for which it is KEPT,"})
    void theLastCellJudgedAsApart() {
        HourLines x = picture("100000", "000000", "000000", "000001");
        due.is("apart from cell 0", x.judge(5), 23);
        x.part(0, 0);
        due.is("the lowest itself", x.judge(5), -1);
        due.is("a small piece that is the lowest", picture("100000", "000000", "001111", "001111").judge(5), 14);
        due.is("the first of two", picture("010100", "111111", "000000", "000000").judge(5), 2);
    }

    // Promise 17

    @Says("Promise 17: NONE: there is none, and for others (hours: bits of told ones, one at least).")
    void noBestByNoHours() {
        HourLines x = slope();
        due.is("the price", x.best(0, false, -1), -1);
        due.is("a cell's hour", x.best(0, true, 0), -1);
        for (int bits = 0; bits < 3; bits++) {
            due.is("without hours", new HourLines(2, 2).best(bits, false, -1), -1);
        }
    }

    @Says("Promise 17: NONE: there is none, and for others (hours: bits of told ones, one at least).")
    void noBestByHoursThatAreNotTold() {
        HourLines x = slope();
        for (int bits : new int[] {8, 9, 15, 16, -1, -8, MIN, MIN + 1, MAX}) {
            due.is("best(" + bits + ", false, -1)", x.best(bits, false, -1), -1);
            due.is("best(" + bits + ", true, 0)", x.best(bits, true, 0), -1);
        }
        x.hour(61);
        due.is("15 of four", x.best(15, false, -1), 2400);
        due.is("16 of four", x.best(16, false, -1), -1);
    }

    @Says("Promise 17: NONE: there is none, and for others (hours: bits of told ones, one at least).")
    void noBestOfAnotherCell() {
        HourLines x = slope();
        for (int c : new int[] {-2, 4, MIN, MAX}) {
            due.is("cell " + c, x.best(7, false, c), -1);
        }
    }

    @Says({"Promise 17: BEST: cell NONE: the PRICE, else its HOUR.",
        "Terms: III. BEST by a set of HOURS, STATES whole or not: of all partings by which each CELL has one of these HOURS"})
    void bestByEachSet() {
        HourLines x = slope();
        int[] prices = {0, 120 * 120, 80 * 120, 50 * 120, 120 * 120, 40 * 120, 50 * 120, 20 * 120};
        for (int bits = 1; bits < 8; bits++) {
            due.is("best by " + bits, x.best(bits, false, -1), prices[bits]);
        }
        parted("by 1", x, 1, false, 0, 0, 0, 0);
        parted("by 2", x, 2, false, 1, 1, 1, 1);
        parted("by 4", x, 4, false, 2, 2, 2, 2);
        parted("by 5", x, 5, false, 0, 0, 2, 2);
        parted("by 6", x, 6, false, 1, 1, 1, 2);
        parted("by 7", x, 7, false, 0, 1, 1, 2);
    }

    @Says({"Terms: (that for which it is KEPT, if so),", "Terms: None, if there is no such parting."})
    void noBestWithoutTheHourOfAKeptCell() {
        HourLines x = slope();
        x.keep(3, 0);
        due.is("with it", x.best(1, false, -1), 120 * 120);
        due.is("its hour", x.best(7, false, 3), 0);
        due.is("the others", x.best(7, false, 2), 1);
        for (int bits : new int[] {2, 4, 6}) {
            due.is("by " + bits, x.best(bits, false, -1), -1);
            due.is("cell 0 by " + bits, x.best(bits, false, 0), -1);
        }
        x.keep(3, -1);
        due.is("kept for any", x.best(6, false, -1), 50 * 120);
    }

    @Says({"Terms: and (whole) all CELLS of a STATE the same:", "Terms: None, if there is no such parting."})
    void statesWhole() {
        HourLines x = slope();
        due.is("the price", x.best(7, true, -1), 40 * 120);
        parted("whole", x, 7, true, 0, 0, 2, 2);
        x.keep(1, 2);
        parted("one is kept", x, 7, true, 2, 2, 2, 2);
        x.keep(0, 0);
        due.is("two are kept apart", x.best(7, true, -1), -1);
        due.is("their cell", x.best(7, true, 0), -1);
        due.is("another's cell", x.best(7, true, 3), -1);
        parted("not whole", x, 7, false, 0, 2, 1, 2);
        x.cell(0, 0, 10, 3, 480, false);
        parted("of two states", x, 7, true, 0, 2, 2, 2);
    }

    @Says("Terms: and (whole) all CELLS of a STATE the same:")
    void allOneStateOrEachItsOwn() {
        HourLines x = slope();
        for (int c = 0; c < 4; c++) {
            x.cell(c, 20 * c, 10, 5, 480, false);
        }
        due.is("one state", x.best(7, true, -1), 80 * 120);
        parted("one state", x, 7, true, 1, 1, 1, 1);
        for (int c = 0; c < 4; c++) {
            x.cell(c, 20 * c, 10, 5 - c, 480, false);
        }
        due.is("each its own", x.best(7, true, -1), 20 * 120);
        parted("each its own", x, 7, true, 0, 1, 1, 2);
    }

    @Says("Terms: of like ones that in which each CELL has the lowest HOUR (there is one that is lowest at all CELLS).")
    void ofLikeOnesTheLowestHours() {
        HourLines x = land(0, 30, 60);
        parted("nothing to pay", x, 7, false, 0, 0, 0, 0);
        parted("nothing to pay by 6", x, 6, false, 1, 1, 1, 1);
        parted("nothing to pay, whole", x, 7, true, 0, 0, 0, 0);
        for (int c = 0; c < 4; c++) {
            x.cell(c, 15 + 30 * (c % 2), 10, 0, 480, false);
        }
        parted("two as near", x, 7, false, 0, 1, 0, 1);
    }

    @Says("Terms: of like ones that in which each CELL has the lowest HOUR (there is one that is lowest at all CELLS).")
    void aTieAsDearAsItsCell() {
        int[] due0 = {1, 0, 0};
        for (int i = 0; i < 3; i++) {
            HourLines x = land(0, 60);
            x.cell(0, 60, 1, 0, 480, false);
            x.cell(1, 0, 99, 0, 480, false);
            x.tie(0, 1, 11 + i);
            due.is("its hour by a tie of " + (11 + i), x.best(3, false, 0), due0[i]);
            due.is("the price", x.best(3, false, -1), i == 0 ? 660 : 720);
            due.is("ties cut", x.cut(false, -1), i == 0 ? 1 : 0);
        }
    }

    @Says("Terms: of like ones that in which each CELL has the lowest HOUR (there is one that is lowest at all CELLS).")
    void tiedOnesAreLowestTogether() {
        HourLines x = land(0, 60);
        for (int c = 0; c < 4; c++) {
            x.cell(c, 30, 10, 0, 480, false);
        }
        x.tie(0, 1, 99);
        x.tie(2, 3, 99);
        x.keep(3, 1);
        parted("one pair is kept above", x, 3, false, 0, 0, 1, 1);
    }

    @Says("Terms: the least PRICE;")
    void tiesBetweenHoursAbove0() {
        HourLines x = land(10, 30, 70);
        x.keep(0, 0);
        x.keep(1, 2);
        x.tie(0, 1, 3);
        x.tie(0, 2, 5);
        x.tie(2, 1, 4);
        due.is("by all", x.best(7, false, -1), 60 * 3 + 60 * 4);
        due.is("by two", x.best(5, false, -1), 60 * 3 + 60 * 4);
        due.is("goes with the heavier", x.best(7, false, 2), 0);
        x.keep(2, 1);
        due.is("between them", x.best(7, false, -1), 60 * 3 + 20 * 5 + 40 * 4);
    }

    @Says("Terms: the least PRICE;")
    void aPriceOf1() {
        HourLines x = land(0, 1);
        x.keep(0, 0);
        x.keep(1, 1);
        due.is("without ties", x.best(3, false, -1), 0);
        x.tie(0, 1, 1);
        due.is("by a tie of 1", x.best(3, false, -1), 1);
        HourLines y = land(0, 1);
        Tape.rule(y, "cost if people = 1 and month = 3 ? 1 : 0 end;");
        y.cell(3, 0, 1, 0, 480, false);
        due.is("by a cell that pays 1", y.best(3, false, -1), 1);
    }

    /** Six by four cells that each like an hour of four, and forty ties within pairs of them. */
    private static HourLines largest() {
        HourLines x = sized(6, 4, 0, 100, 200, 300);
        for (int c = 0; c < 24; c++) {
            x.cell(c, 100 * (c % 4), 999, c % 6, 480, false);
        }
        for (int i = 0; i < 40; i++) {
            x.tie(i % 12 * 2, i % 12 * 2 + 1, 99);
        }
        return x;
    }

    @Says({"Terms: the least PRICE;", "Terms: HELD of a CELL by BEST:"})
    void bestOfTheLargestLand() {
        HourLines x = largest();
        due.is("the price", x.best(15, false, -1), 40 * 9900);
        for (int c = 0; c < 24; c++) {
            due.is("cell " + c, x.best(15, false, c), c % 4);
        }
        due.is("held with four ties", x.held(0, false), 100 * 999 * 12 - 4 * 9900);
        due.is("held with three ties", x.held(23, false), 100 * 999 * 12 - 3 * 9900);
        due.is("ties cut", x.cut(false, -1), 40);
        due.is("more by four", x.many(4, false, 2), 6 * 100 * 999 * 12 - 20 * 9900);
        due.is("years", x.years(1, true), 18);
    }

    @Says("Terms: the least PRICE;")
    void bestChangesNothing() {
        HourLines x = slope();
        x.part(0, 2);
        String before = shown(x);
        x.best(7, true, -1);
        x.best(5, false, 0);
        x.held(0, true);
        x.cut(false, -1);
        x.many(2, true, 2);
        due.holds("all is as it was", shown(x).equals(before));
    }

    // Promise 18

    @Says("Promise 18: NONE: it can't be (KEPT, the only HOUR, or none is BEST),")
    void keptIsNotHeld() {
        HourLines x = slope();
        x.keep(1, 1);
        due.is("kept for what it likes", x.held(1, false), -1);
        x.keep(1, 2);
        due.is("kept for another", x.held(1, false), -1);
        due.is("the others are", x.held(0, false), 3600);
        x.keep(1, -1);
        due.is("kept for any", x.held(1, false), 1200);
    }

    @Says("Promise 18: NONE: it can't be (KEPT, the only HOUR, or none is BEST),")
    void theOnlyHourIsNotHeld() {
        HourLines x = land(30);
        due.is("the only hour", x.held(0, false), -1);
        due.is("whole", x.held(3, true), -1);
        x.hour(31);
        due.is("one of two", x.held(0, false), 0);
        due.is("whole", x.held(3, true), 0);
    }

    @Says("Promise 18: NONE: it can't be (KEPT, the only HOUR, or none is BEST),")
    void noneIsHeldIfNoneIsBest() {
        HourLines x = apart();
        x.cell(3, 0, 0, 1, 480, false);
        due.is("whole", x.held(3, true), -1);
        due.is("not whole", x.held(3, false), 0);
    }

    @Says("Promise 18: NONE: it can't be (KEPT, the only HOUR, or none is BEST),")
    void aStateWithAKeptCellIsNotHeld() {
        HourLines x = slope();
        x.keep(1, 0);
        due.is("whole", x.held(0, true), -1);
        due.is("the other state", x.held(2, true), 20 * 120);
        due.is("not whole", x.held(0, false), 3600);
    }

    @Says("Promise 18: and for others.")
    void noOtherIsHeld() {
        HourLines x = slope();
        for (int c : new int[] {-1, -2, 4, MIN, MAX}) {
            due.is("cell " + c, x.held(c, false), -1);
            due.is("cell " + c + ", whole", x.held(c, true), -1);
        }
        due.is("without hours", new HourLines(2, 2).held(0, false), -1);
        due.is("without hours, whole", new HourLines(2, 2).held(3, true), -1);
    }

    @Says({"Promise 18: HELD (by all HOURS; STATES whole or not).",
        "Terms: HELD of a CELL by BEST: how much more the least PRICE is, if just this CELL had to have another HOUR (told)."})
    void heldByTheNearestOtherHour() {
        HourLines x = slope();
        due.is("cell 0", x.held(0, false), 30 * 120);
        due.is("cell 1", x.held(1, false), 10 * 120);
        due.is("cell 2", x.held(2, false), 10 * 120);
        due.is("cell 3", x.held(3, false), 30 * 120);
        due.is("state 0", x.held(0, true), 20 * 120);
        due.is("state 0", x.held(1, true), 20 * 120);
        due.is("a like one is there", land(0, 1, 2, 3).held(3, false), 0);
    }

    @Says("Terms: if just this CELL had to have another HOUR (told).")
    void othersMayGoAlong() {
        HourLines x = land(0, 60);
        x.cell(0, 0, 1, 0, 480, false);
        x.tie(0, 1, 99);
        due.is("cell 1 goes along", x.held(0, false), 720);
        due.is("cell 0 goes along", x.held(1, false), 720);
        x.keep(1, 0);
        due.is("cell 1 can't", x.held(0, false), 720 + 99 * 60);
    }

    // Promise 19

    @Says({"Promise 19: CUT by all HOURS: how many TIES (i NONE),", "Promise 19: NONE if there is none such,"})
    void noTieCut() {
        HourLines x = land(0, 60);
        due.is("no ties", x.cut(false, -1), 0);
        due.is("the first", x.cut(false, 0), -1);
        x.tie(0, 1, 1);
        due.is("none cut", x.cut(false, -1), 0);
        due.is("the first", x.cut(false, 0), -1);
        HourLines y = land(0);
        y.tie(0, 1, 1);
        due.is("by the only hour", y.cut(true, -1), 0);
        HourLines z = land(0, 60);
        for (int i = 0; i < 40; i++) {
            z.tie(0, 1, 1);
        }
        due.is("none of forty", z.cut(false, -1), 0);
        due.is("the first", z.cut(false, 0), -1);
    }

    @Says({"Promise 19: the i-th TIE's number (0 the first told).", "Terms: CUT: TIES between CELLS of unlike HOURS by BEST."})
    void allTiesCut() {
        HourLines x = apart();
        for (int i = 0; i < 40; i++) {
            x.tie(i % 2, 1 - i % 2, 1 + i);
        }
        due.is("forty", x.cut(false, -1), 40);
        for (int i = 0; i < 40; i++) {
            due.is("the one at " + i, x.cut(false, i), i);
        }
        due.is("none behind them", x.cut(false, 40), -1);
    }

    @Says("Terms: CUT: TIES between CELLS of unlike HOURS by BEST.")
    void cutByWhatIsToldLast() {
        HourLines x = land(0, 60);
        x.tie(0, 1, 1);
        due.is("at first", x.cut(false, -1), 0);
        x.cell(0, 60, 1, 0, 480, false);
        due.is("without people on the other side", x.cut(false, -1), 0);
        x.cell(1, 0, 1, 0, 480, false);
        due.is("with them", x.cut(false, -1), 1);
        x.tie(1, 0, 11);
        due.is("by a tie as dear", x.cut(false, -1), 0);
        x.part(1, 1);
        due.is("not by THE PARTING", x.cut(false, -1), 0);
    }

    @Says("Promise 19: the i-th TIE's number (0 the first told).")
    void tiesThatAreNotCutHaveTheirNumbersToo() {
        HourLines x = apart();
        x.keep(2, 1);
        x.keep(3, 0);
        int[][] ties = {{1, 2}, {0, 1}, {3, 0}, {2, 3}, {1, 2}, {3, 1}};
        for (int[] t : ties) {
            x.tie(t[0], t[1], 1);
        }
        due.is("cut", x.cut(false, -1), 3);
        due.is("the first", x.cut(false, 0), 1);
        due.is("the second", x.cut(false, 1), 3);
        due.is("the third", x.cut(false, 2), 5);
        due.is("no fourth", x.cut(false, 3), -1);
    }

    @Says("Promise 19: none is BEST,")
    void nothingIsCutIfNoneIsBest() {
        HourLines x = apart();
        x.tie(0, 1, 1);
        due.is("how many", x.cut(true, -1), -1);
        due.is("the first", x.cut(true, 0), -1);
        due.is("not whole", x.cut(false, -1), 1);
    }

    @Says("Promise 19: and for others.")
    void noOtherTieIsCut() {
        HourLines x = apart();
        x.tie(0, 1, 1);
        for (int i : new int[] {-2, 1, 40, 41, MIN, MAX}) {
            due.is("cut(false, " + i + ")", x.cut(false, i), -1);
        }
        HourLines y = new HourLines(2, 2);
        y.tie(0, 1, 1);
        due.is("without hours", y.cut(false, -1), -1);
        due.is("without hours", y.cut(true, 0), -1);
    }

    // Promise 20

    @Says({"Promise 20: MANY: 0 the set, 1 its PRICE,", "Terms: MANY by k HOURS (1 .. 4), STATES whole or not:"})
    void manyByOneToFour() {
        HourLines x = slope();
        x.hour(90);
        int[] sets = {0, 2, 5, 7, 15};
        int[] prices = {0, 80 * 120, 40 * 120, 20 * 120, 20 * 120};
        for (int k = 1; k <= 4; k++) {
            due.is("the set of " + k, x.many(k, false, 0), sets[k]);
            due.is("its price", x.many(k, false, 1), prices[k]);
        }
        due.is("whole, by two", x.many(2, true, 0), 5);
        due.is("whole, by three", x.many(3, true, 1), 40 * 120);
    }

    @Says("Promise 20: and for others (more than there are).")
    void notMoreThanThereAre() {
        for (int k : new int[] {4, 5, MAX}) {
            for (int what = 0; what <= 2; what++) {
                due.is("many(" + k + ", " + what + ") of three", slope().many(k, false, what), -1);
            }
        }
        due.is("two of one", land(0).many(2, false, 0), -1);
        due.is("five of four", land(0, 1, 2, 3).many(5, false, 0), -1);
        due.is("one of none", new HourLines(2, 2).many(1, false, 0), -1);
    }

    @Says("Promise 20: and for others (more than there are).")
    void notLessThanOne() {
        for (int k : new int[] {0, -1, MIN}) {
            for (int what = 0; what <= 2; what++) {
                due.is("many(" + k + ", " + what + ")", slope().many(k, true, what), -1);
            }
        }
        due.is("none of none", new HourLines(2, 2).many(0, false, 0), -1);
    }

    @Says("Promise 20: and for others (more than there are).")
    void nothingElseOfMany() {
        for (int what : new int[] {-1, 3, MIN, MAX}) {
            due.is("many(2, false, " + what + ")", slope().many(2, false, what), -1);
        }
    }

    @Says("Terms: the set of k of all HOURS by which BEST is least, of like ones the lowest as bits.")
    void ofLikeSetsTheLowest() {
        HourLines x = land(0, 1, 2, 3);
        int[] lowest = {0, 1, 3, 7, 15};
        for (int k = 1; k <= 4; k++) {
            due.is("nothing to pay by " + k, x.many(k, false, 0), lowest[k]);
        }
        x.keep(0, 3);
        due.is("with hour 3", x.many(1, false, 0), 8);
        due.is("with hour 3", x.many(2, false, 0), 9);
        due.is("with hour 3", x.many(3, true, 0), 11);
        x.keep(1, 2);
        due.is("with hours 2 and 3", x.many(2, false, 0), 12);
    }

    @Says({"Promise 20: 2 MORE (k 2 on).", "Terms: MORE: by how much MANY by k is less than by k - 1."})
    void moreFromTwoOn() {
        HourLines x = slope();
        x.hour(90);
        due.is("none for one", x.many(1, false, 2), -1);
        due.is("two", x.many(2, false, 2), 40 * 120);
        due.is("three", x.many(3, false, 2), 20 * 120);
        due.is("nothing by four", x.many(4, false, 2), 0);
    }

    @Says("Promise 20: NONE: no such parting (of k, for MORE of k - 1),")
    void noPartingOfK() {
        HourLines x = apart();
        x.hour(90);
        due.is("one isn't enough", x.many(1, false, 0), -1);
        due.is("nor is its price", x.many(1, false, 1), -1);
        due.is("two are", x.many(2, false, 0), 3);
        due.is("of states that are kept apart", x.many(3, true, 0), -1);
        due.is("their price", x.many(3, true, 1), -1);
        due.is("their more", x.many(3, true, 2), -1);
    }

    @Says("Promise 20: NONE: no such parting (of k, for MORE of k - 1),")
    void noPartingOfOneLessForMore() {
        HourLines x = apart();
        x.hour(90);
        due.is("the price by two", x.many(2, false, 1), 0);
        due.is("no more by two", x.many(2, false, 2), -1);
        due.is("more by three", x.many(3, false, 2), 0);
    }

    public static void main(String[] args) throws ReflectiveOperationException {
        new BestBoundsTest().run();
    }
}
