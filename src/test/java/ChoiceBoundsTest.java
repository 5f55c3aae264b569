/** Where choices end: each bound that promises 21 to 25 and 30, and their terms, name has a test of its own. */
public final class ChoiceBoundsTest extends Sentences {

    /** Ten, eleven, twelve, thirteen people, sun 0, 20, 40, 60, hours 0, 30, 60. */
    private static HourLines slope() {
        HourLines x = land(0, 30, 60);
        for (int c = 0; c < 4; c++) {
            x.cell(c, 20 * c, 10 + c, 0, 480, false);
        }
        return x;
    }

    /** No call of these has an answer without hours. */
    private static HourLines bare() {
        HourLines x = new HourLines(2, 2);
        x.cell(0, 0, 5, 0, 480, true);
        return x;
    }

    // Promise 21

    @Says("Promise 21: and without HOURS.")
    void noOneWithoutHours() {
        due.is("one(0)", bare().one(0), -1);
        due.is("one(1)", bare().one(1), -1);
    }

    @Says("Promise 21: NONE for others,")
    void nothingElseOfOne() {
        for (int what : new int[] {-1, 2, 3, MIN, MAX}) {
            due.is("one(" + what + ")", slope().one(what), -1);
        }
    }

    @Says({"Promise 21: ONE: 0 the HOUR, 1 what all CELLS pay.", "Terms: of like ones the lowest. LOSES"})
    void ofLikeHoursTheLowestForAll() {
        HourLines x = land(0, 30, 60);
        due.is("nothing to pay", x.one(0), 0);
        due.is("nothing to pay", x.one(1), 0);
        x.cell(0, 45, 2, 0, 480, false);
        due.is("two as near", x.one(0), 1);
        due.is("its pay", x.one(1), 15 * 2 * 12);
        x.cell(0, 46, 2, 0, 480, false);
        due.is("a minute nearer", x.one(0), 2);
        x.cell(0, 30, 2, 0, 480, false);
        due.is("just there", x.one(1), 0);
    }

    @Says("Promise 21: ONE: 0 the HOUR, 1 what all CELLS pay.")
    void theOnlyAndTheLastHourForAll() {
        HourLines x = sized(6, 4, 300);
        for (int c = 0; c < 24; c++) {
            x.cell(c, 0, 999, 0, 480, false);
        }
        due.is("the only hour", x.one(0), 0);
        due.is("the most there is to pay", x.one(1), 300 * 999 * 12 * 24);
        HourLines y = land(0, 1, 2, 3);
        y.cell(3, 3, 1, 0, 480, false);
        due.is("the last of four", y.one(0), 3);
    }

    @Says("Terms: ONE: the HOUR of which all CELLS have least PAYS together (KEPT aside),")
    void oneForAllKeptAside() {
        HourLines x = slope();
        due.is("the hour", x.one(0), 1);
        int pay = (30 * 10 + 10 * 11 + 10 * 12 + 30 * 13) * 12;
        due.is("its pay", x.one(1), pay);
        for (int c = 0; c < 4; c++) {
            x.keep(c, 2);
            x.tie(c, (c + 1) % 4, 99);
        }
        x.part(0, 2);
        due.is("all kept for another", x.one(0), 1);
        due.is("its pay without ties", x.one(1), pay);
    }

    // Promise 22

    @Says("Promise 22: NONE for others.")
    void noLossByAnotherHour() {
        for (int k : new int[] {-1, 3, 4, MIN, MAX}) {
            due.is("loses(" + k + ", 0)", slope().loses(k, 0), -1);
            due.is("loses(" + k + ", 1)", slope().loses(k, 1), -1);
        }
        due.is("without hours", bare().loses(0, 0), -1);
        due.is("without hours", bare().loses(0, 1), -1);
    }

    @Says("Promise 22: NONE for others.")
    void nothingElseOfLoses() {
        for (int what : new int[] {-1, 2, 3, MIN, MAX}) {
            due.is("loses(0, " + what + ")", slope().loses(0, what), -1);
        }
    }

    @Says({"Promise 22: LOSES by an HOUR: 0 PEOPLE, 1 CELLS.",
        "Terms: LOSES by an HOUR for all: CELLS that pay less by another HOUR: how many PEOPLE; how many CELLS."})
    void asMuchByAnotherHourIsNoLoss() {
        HourLines x = land(0, 30);
        x.cell(0, 15, 5, 0, 480, false);
        due.is("by 0", x.loses(0, 1), 0);
        due.is("by 1", x.loses(1, 1), 0);
        x.cell(0, 16, 5, 0, 480, false);
        due.is("by 0: people", x.loses(0, 0), 5);
        due.is("by 0: cells", x.loses(0, 1), 1);
        due.is("by 1", x.loses(1, 1), 0);
        x.cell(0, 14, 5, 0, 480, false);
        due.is("by 1: people", x.loses(1, 0), 5);
        due.is("by 0", x.loses(0, 0), 0);
    }

    @Says("Terms: LOSES by an HOUR for all: CELLS that pay less by another HOUR: how many PEOPLE; how many CELLS.")
    void noneToAllLose() {
        HourLines x = sized(6, 4, 10);
        for (int c = 0; c < 24; c++) {
            x.cell(c, 0, 999, 0, 480, false);
        }
        due.is("none by the only hour", x.loses(0, 1), 0);
        due.is("no people by it", x.loses(0, 0), 0);
        x.hour(11);
        x.hour(12);
        due.is("all by the last, each once", x.loses(2, 1), 24);
        due.is("all people", x.loses(2, 0), 24 * 999);
        due.is("none by the first", x.loses(0, 1), 0);
    }

    @Says("Terms: LOSES by an HOUR for all: CELLS that pay less by another HOUR: how many PEOPLE; how many CELLS.")
    void cellsWithoutPeopleLoseToo() {
        HourLines x = land(0, 10);
        Tape.rule(x, "cost hour;");
        due.is("people", x.loses(1, 0), 0);
        due.is("cells", x.loses(1, 1), 4);
    }

    // Promise 23

    @Says("Promise 23: and without HOURS.")
    void noFreeWithoutHours() {
        for (int what : new int[] {0, 1, 10, 13}) {
            due.is("free(" + what + ")", bare().free(what), -1);
        }
    }

    @Says("Promise 23: NONE for others,")
    void nothingElseOfFree() {
        for (int what : new int[] {-1, 2, 9, 14, 33, MIN, MIN + 9, MIN + 10, MAX}) {
            due.is("free(" + what + ")", slope().free(what), -1);
        }
        HourLines x = sized(6, 4, 0);
        due.is("the last cell", x.free(33), 0);
        due.is("none behind it", x.free(34), -1);
    }

    @Says({"Promise 23: FREE: 0 ROUNDS (NONE: not by 20), 1 changes, 10 + cell: its HOUR then.",
        "Terms: It ends with the first ROUND in which none changes (20 ROUNDS at most): how many ROUNDS (that one, too), "
        + "how many changes, and the HOURS then; nothing is changed by it."})
    void freeOfOneRound() {
        HourLines x = land(0, 10);
        due.is("rounds", x.free(0), 1);
        due.is("changes", x.free(1), 0);
        x.cell(3, 10, 1, 0, 480, false);
        due.is("rounds with a change", x.free(0), 2);
        due.is("changes", x.free(1), 1);
        due.is("its hour", x.free(13), 1);
        due.is("another's", x.free(12), 0);
    }

    /** A chain against the numbers, in which one cell goes in each round: so many go. */
    private static HourLines chain(int going) {
        HourLines x = sized(6, 4, 0, 60);
        x.cell(going - 1, 60, 999, 0, 480, false);
        for (int c = going - 1; c > 0; c--) {
            x.tie(c, c - 1, 4 * c);
        }
        return x;
    }

    @Says("Terms: (20 ROUNDS at most)")
    void freeOfTwentyRounds() {
        HourLines x = chain(19);
        due.is("rounds", x.free(0), 20);
        due.is("changes", x.free(1), 19);
        due.is("the last that goes", x.free(10), 1);
    }

    @Says({"Promise 23: (NONE: not by 20)", "Terms: (20 ROUNDS at most)"})
    void freeOfMoreThanTwentyRounds() {
        HourLines x = chain(20);
        due.is("rounds", x.free(0), -1);
        due.is("changes by then", x.free(1), 20);
        due.is("the 20th goes", x.free(10), 1);
        HourLines y = chain(22);
        due.is("rounds", y.free(0), -1);
        due.is("changes by then", y.free(1), 20);
        due.is("the 20th goes", y.free(12), 1);
        due.is("the 21st doesn't", y.free(11), 0);
    }

    @Says("Terms: nothing is changed by it.")
    void freeChangesNothing() {
        HourLines x = slope();
        String before = shown(x);
        x.free(0);
        x.free(13);
        due.is("its hour then", x.free(13), 2);
        due.is("its hour now", x.about(43), 0);
        due.holds("all is as it was", shown(x).equals(before));
    }

    @Says("Terms: CELL by CELL from 0: a CELL that isn't KEPT,")
    void keptCellsDontGo() {
        HourLines x = slope();
        x.keep(3, 0);
        due.is("kept where it is", x.free(13), 0);
        x.keep(3, 2);
        due.is("kept for where it would go", x.free(13), 0);
        x.keep(3, -1);
        due.is("kept for any", x.free(13), 2);
    }

    @Says("Terms: FREE: from THE PARTING on, ROUND by ROUND,")
    void freeFromThePartingOn() {
        HourLines x = land(0, 60);
        x.tie(0, 1, 1);
        due.is("all in 0", x.free(1), 0);
        for (int c = 0; c < 4; c++) {
            x.part(c, 1);
        }
        due.is("all in 1", x.free(1), 0);
        due.is("they stay", x.free(10), 1);
        x.part(1, 0);
        due.is("cell 0 goes to 1", x.free(10), 0);
        due.is("one change", x.free(1), 1);
    }

    @Says("Terms: CELL by CELL from 0:")
    void theLowestCellGoesFirst() {
        HourLines x = land(0, 60);
        x.tie(0, 3, 1);
        x.part(3, 1);
        due.is("0 goes", x.free(10), 1);
        due.is("3 has no need to", x.free(13), 1);
        due.is("one change", x.free(1), 1);
    }

    @Says("Terms: takes the HOUR by which it and its TIES pay least as all others are now "
        + "(of like ones that which it has, else the lowest).")
    void ofLikeHoursItsOwn() {
        HourLines x = land(0, 30, 60);
        for (int k = 0; k < 3; k++) {
            x.part(0, k);
            due.is("nothing to pay in " + k, x.free(10), k);
        }
        x.cell(0, 45, 1, 0, 480, false);
        due.is("from above", x.free(10), 2);
        x.part(0, 1);
        due.is("from below", x.free(10), 1);
    }

    @Says("Terms: (of like ones that which it has, else the lowest).")
    void elseOfLikeHoursTheLowest() {
        HourLines x = land(0, 30, 60, 90);
        x.cell(0, 45, 1, 0, 480, false);
        due.is("from 0", x.free(10), 1);
        x.part(0, 3);
        due.is("from 3", x.free(10), 1);
    }

    @Says("Terms: and for which no stay clause is so (month 0, its HOUR as it is then),")
    void stayInMonth0() {
        HourLines x = slope();
        Tape.rule(x, "stay month = 0;");
        due.is("all stay", x.free(1), 0);
        Tape.rule(x, "stay month # 0;");
        due.is("none stays", x.free(1), 3);
        HourLines y = land(0, 60);
        Tape.rule(y, "cost 1 - hour; stay off = 0;");
        y.summer(1, 11);
        due.is("no summer in month 0", y.free(1), 0);
        for (int b = 0; b < 12; b++) {
            y.summer(0, b);
            due.is("summer from month 0", y.free(1), 4);
        }
        y.summer(11, 0);
        due.is("summer to month 0", y.free(1), 4);
    }

    @Says("Terms: and for which no stay clause is so (month 0, its HOUR as it is then),")
    void stayByItsHourThen() {
        HourLines x = land(0, 10, 20);
        x.cell(0, 10, 9, 0, 480, false);
        x.cell(1, 20, 9, 0, 480, false);
        x.tie(0, 1, 40);
        Tape.rule(x, "stay hour = 1;");
        // Cell 0 waits for cell 1: once it is in hour 1 it goes no further.
        due.is("cell 0", x.free(10), 1);
        due.is("cell 1", x.free(11), 2);
        x.part(1, 1);
        due.is("cell 1 is there", x.free(11), 1);
    }

    @Says("Terms: and for which no stay clause is so (month 0, its HOUR as it is then),")
    void withoutAStayClauseNoneStays() {
        HourLines x = slope();
        Tape.rule(x, "grow 1;");
        due.is("changes", x.free(1), 3);
        Tape.rule(x, "stay 1 = 2;");
        due.is("changes", x.free(1), 3);
        Tape.rule(x, "stay 1 = 1;");
        due.is("no changes", x.free(1), 0);
        due.is("one round", x.free(0), 1);
    }

    @Says("Terms: takes the HOUR by which it and its TIES pay least as all others are now")
    void freeByFortyTies() {
        HourLines x = land(0, 60);
        x.cell(0, 60, 300, 0, 480, false);
        for (int i = 0; i < 40; i++) {
            x.tie(i % 2, 1 - i % 2, 99);
        }
        // 300 people pay 216000 in hour 0, its ties 237600 in hour 1.
        due.is("its ties weigh more", x.free(1), 0);
        x.cell(0, 60, 331, 0, 480, false);
        due.is("its people do", x.free(1), 2);
        Tape.rule(x, "stay alone = 99 * 40;");
        due.is("the other stays by all its ties", x.free(1), 1);
        Tape.rule(x, "stay alone = 99 * 39;");
        due.is("it stays by no less", x.free(1), 2);
    }

    // Promise 24

    /** Cell 4 is a town in hour 1. */
    private static HourLines town() {
        HourLines x = sized(3, 2, 0, 60);
        x.cell(4, 60, 1, 0, 480, true);
        x.part(4, 1);
        x.cell(0, 60, 2, 0, 480, false);
        x.cell(1, 0, 3, 0, 480, false);
        x.tie(0, 4, 5);
        return x;
    }

    private void refusesPull(int town, int y, int bits) {
        due.is("pull(" + town + ", " + y + ", " + bits + ")", town().pull(town, y, bits), NO_WORTH);
    }

    @Says("Promise 24: and without HOURS.")
    void noPullWithoutHours() {
        due.is("pull(0, 0, 0)", bare().pull(0, 0, 0), NO_WORTH);
        due.is("pull(0, 1, 3)", bare().pull(0, 1, 3), NO_WORTH);
    }

    @Says("Promise 24: (a CELL that is no TOWN),")
    void noPullOfACellThatIsNoTown() {
        refusesPull(0, 0, 1);
        refusesPull(3, 1, 7);
        HourLines x = town();
        x.cell(4, 60, 1, 0, 480, false);
        due.is("one that was", x.pull(4, 0, 1), NO_WORTH);
    }

    @Says("Promise 24: -1000000000 for others")
    void noPullOfAnotherCell() {
        refusesPull(-1, 0, 1);
        refusesPull(6, 0, 1);
        refusesPull(MIN, 0, 1);
        refusesPull(MAX, 0, 1);
    }

    @Says("Promise 24: -1000000000 for others")
    void noPullOnAnotherRow() {
        refusesPull(4, -1, 1);
        refusesPull(4, 2, 1);
        refusesPull(4, MIN, 1);
        refusesPull(4, MAX, 1);
    }

    @Says("Promise 24: -1000000000 for others")
    void noPullOnCellsBesideTheRow() {
        refusesPull(4, 0, 8);
        refusesPull(4, 0, 9);
        refusesPull(4, 1, 8);
        refusesPull(4, 0, -1);
        refusesPull(4, 0, MIN);
        refusesPull(4, 0, MAX);
        HourLines x = sized(6, 4, 0);
        x.cell(23, 0, 0, 0, 480, true);
        due.is("63 of six", x.pull(23, 3, 63), 0);
        due.is("64 of six", x.pull(23, 3, 64), NO_WORTH);
    }

    @Says({"Promise 24: PULL of a TOWN on CELLS of a row y that bits of x tell.",
        "Terms: PULL of a TOWN (a CELL) on a set of CELLS (rows of them told as one row's bits: y, bits of x):"})
    void pullOnNoneToAllOfARow() {
        HourLines x = town();
        due.is("none", x.pull(4, 0, 0), 0);
        due.is("cell 0", x.pull(4, 0, 1), 60 * 2 * 12 + 60 * 5);
        due.is("cell 1", x.pull(4, 0, 2), -60 * 3 * 12);
        due.is("cell 2", x.pull(4, 0, 4), 0);
        due.is("all", x.pull(4, 0, 7), 60 * 2 * 12 + 60 * 5 - 60 * 3 * 12);
        due.is("the town's own row", x.pull(4, 1, 7), 0);
    }

    @Says("Terms: by how much the PRICE of THE PARTING falls, if all these had the TOWN's HOUR "
        + "(less than 0: rises; KEPT aside).")
    void pullAtItsLeastAndMost() {
        HourLines x = sized(6, 4, 0, 300);
        for (int c = 0; c < 24; c++) {
            x.cell(c, 300, 999, 0, 480, c == 23);
        }
        x.part(23, 1);
        due.is("it falls", x.pull(23, 0, 63), 300 * 999 * 12 * 6);
        for (int c = 0; c < 24; c++) {
            x.cell(c, 0, 999, 0, 480, c == 23);
        }
        due.is("it rises", x.pull(23, 0, 63), -300 * 999 * 12 * 6);
        x.keep(0, 0);
        due.is("kept aside", x.pull(23, 0, 63), -300 * 999 * 12 * 6);
        due.is("THE PARTING stays", x.about(40), 0);
    }

    // Promise 25

    private void whenIs(String cost, int a, int b) {
        HourLines x = land(0);
        Tape.rule(x, "cost " + cost + ";");
        due.is("a by " + cost, x.when(0), a);
        due.is("b by " + cost, x.when(1), b);
    }

    @Says("Promise 25: and without HOURS.")
    void noWhenWithoutHours() {
        for (int what = 0; what <= 2; what++) {
            due.is("when(" + what + ")", bare().when(what), -2);
        }
    }

    @Says("Promise 25: -2 for others,")
    void nothingElseOfWhen() {
        for (int what : new int[] {-1, 3, 4, MIN, MAX}) {
            due.is("when(" + what + ")", slope().when(what), -2);
        }
    }

    @Says({"Promise 25: WHEN: 0 a (NONE: none is best), 1 b, 2 the PRICE by it.", "Terms: of like ones none,"})
    void noSummerIsBest() {
        HourLines x = land(0);
        x.tie(0, 1, 9);
        due.is("a, nothing to pay", x.when(0), -1);
        due.is("b", x.when(1), -1);
        due.is("the price", x.when(2), 0);
        x.cell(0, 30, 1, 0, 480, false);
        due.is("as much with it", x.when(0), -1);
        due.is("the price", x.when(2), 360);
        x.cell(0, 31, 1, 0, 480, false);
        due.is("a minute more", x.when(0), 0);
        due.is("the price", x.when(2), 29 * 12);
    }

    @Says("Terms: WHEN: of SUMMERS from a to b (a <= b), and none, that by which the PRICE of THE PARTING is least:")
    void theFirstTheLastAndAllMonths() {
        whenIs("if month = 0 ? 60 - off : off end", 0, 0);
        whenIs("if month = 11 ? 60 - off : off end", 11, 11);
        whenIs("60 - off", 0, 11);
        whenIs("if month = 0 or month = 11 ? 100 - off : off / 60 end", 0, 11);
    }

    @Says("Terms: WHEN: of SUMMERS from a to b (a <= b), and none, that by which the PRICE of THE PARTING is least:")
    void noSummerRoundTheYear() {
        whenIs("if month = 0 or month = 11 ? 60 - off : off end", 0, 0);
        whenIs("if month < 2 or month = 11 ? 60 - off : off end", 0, 1);
        whenIs("if month < 1 or month > 9 ? 60 - off : off end", 10, 11);
    }

    @Says("Terms: then the lowest a, then the lowest b.")
    void theLowestA() {
        whenIs("if month = 4 or month = 7 ? 60 - off : off end", 4, 4);
        whenIs("if month = 4 ? 60 - off : if month = 3 ? 5 : off end end", 3, 4);
        whenIs("if month = 11 ? 60 - off : 5 end", 0, 11);
    }

    @Says("Terms: then the lowest a, then the lowest b.")
    void theLowestB() {
        whenIs("if month = 4 ? 60 - off : if month = 5 ? 5 : off end end", 4, 4);
        whenIs("if month = 4 or month = 6 ? 60 - off : off end", 4, 4);
        whenIs("if month = 0 ? 60 - off : 5 end", 0, 0);
    }

    @Says("Terms: that by which the PRICE of THE PARTING is least:")
    void whenAsidesTheSummerThereIs() {
        HourLines x = land(0, 60);
        x.cell(0, 60, 1, 0, 480, false);
        x.tie(0, 1, 1);
        x.summer(5, 3);
        String before = shown(x);
        due.is("a", x.when(0), 0);
        due.is("b", x.when(1), 11);
        due.is("the price", x.when(2), 0);
        x.part(0, 1);
        due.is("by THE PARTING", x.when(0), -1);
        due.is("the price with its tie", x.when(2), 60);
        x.part(0, 0);
        due.holds("the summer stays", shown(x).equals(before));
    }

    // Promise 30

    @Says("Promise 30: and without HOURS.")
    void noBothWithoutHours() {
        due.is("both(0)", bare().both(0), NO_WORTH);
        due.is("both(3)", bare().both(3), NO_WORTH);
    }

    @Says("Promise 30: -1000000000 for others,")
    void noBothOfAnotherCell() {
        for (int c : new int[] {-1, 4, MIN, MAX}) {
            due.is("both(" + c + ")", slope().both(c), NO_WORTH);
        }
    }

    @Says({"Promise 30: without a next HOUR,", "Terms: (none, if there is no next)."})
    void noBothInTheLastHour() {
        HourLines x = land(0, 30, 60, 90);
        for (int k = 0; k < 3; k++) {
            x.part(3, k);
            due.is("in hour " + k, x.both(3), 0);
        }
        x.part(3, 3);
        due.is("in the last", x.both(3), NO_WORTH);
        due.is("of one hour", land(0).both(0), NO_WORTH);
    }

    @Says({"Promise 30: WORTH of BOTH in a CELL.",
        "Terms: BOTH: a CELL keeps two HOURS, h and h + 1: its TIES to CELLS of either pay nothing;"})
    void tiesToEitherPayNothing() {
        HourLines x = land(0, 20, 50);
        x.tie(0, 1, 10);
        due.is("to its own", x.both(0), 0);
        x.part(1, 1);
        due.is("to the next", x.both(0), 200);
        due.is("from there to its own", x.both(1), 0);
    }

    @Says("Terms: to others by the nearer one of these;")
    void tiesToOthersPayByTheNearer() {
        HourLines x = land(0, 20, 50, 90);
        x.tie(0, 1, 10);
        x.part(1, 2);
        due.is("two above", x.both(0), 200);
        x.part(1, 3);
        due.is("three above", x.both(0), 200);
        x.part(0, 2);
        x.part(1, 0);
        due.is("below", x.both(0), 0);
        x.part(1, 1);
        due.is("one below", x.both(0), 0);
        HourLines y = land(10, 20, 50, 90);
        y.tie(1, 0, 10);
        y.part(1, 3);
        due.is("from the first, of 10", y.both(0), 100);
        y.part(0, 1);
        due.is("from the second", y.both(0), 300);
        y.part(0, 2);
        due.is("to the next", y.both(0), 400);
    }

    @Says("Terms: it PAYS by the dearer of both.")
    void bothPaysByTheDearer() {
        HourLines x = land(0, 20);
        x.cell(0, 9, 1, 0, 480, false);
        due.is("the next is dearer", x.both(0), -24);
        x.cell(0, 10, 1, 0, 480, false);
        due.is("both alike", x.both(0), 0);
        x.cell(0, 11, 1, 0, 480, false);
        due.is("its own is dearer", x.both(0), 0);
    }

    @Says("Terms: WORTH of BOTH in a CELL: by how much the PRICE of THE PARTING falls, if this CELL kept its HOUR and the next")
    void worthAtItsLeastAndMost() {
        HourLines x = land(0, 300);
        x.cell(0, 0, 999, 0, 480, false);
        due.is("the least", x.both(0), -300 * 999 * 12);
        x.cell(0, 150, 999, 0, 480, false);
        for (int c = 1; c < 4; c++) {
            x.part(c, 1);
        }
        for (int i = 0; i < 40; i++) {
            x.tie(i % 2 == 0 ? 0 : 1 + i % 3, i % 2 == 0 ? 1 + i % 3 : 0, 99);
        }
        due.is("the most", x.both(0), 300 * 99 * 40);
        due.is("THE PARTING stays", x.about(40), 0);
    }

    public static void main(String[] args) throws ReflectiveOperationException {
        new ChoiceBoundsTest().run();
    }
}
