/** Where texts end: each bound that part II and promises 9 to 15 name has a test of its own. */
public final class TextBoundsTest extends Sentences {

    /** A text, read by a new object: its fault and the fault's place. */
    private void fault(String text, int fault, int place) {
        HourLines x = new HourLines(2, 2);
        due.is("text() of [" + text + "]", Tape.tell(x, text), fault == 0 ? 0 : -1);
        due.is("fault(0) of [" + text + "]", x.fault(0), fault);
        due.is("fault(1) of [" + text + "]", x.fault(1), place);
    }

    private void fine(String text) {
        fault(text, 0, -1);
    }

    /** What a SUM is worth to cell 3 of people 30, state 4, no town, by hour 1: off 20, month 0 dark 15. */
    private void works(String sum, int value) {
        HourLines x = land(10, 100);
        x.cell(3, 80, 30, 4, 365, false);
        String digits = Integer.toString(Math.abs(value));
        String wanted = digits.length() < 5 ? digits : "(" + digits.substring(0, digits.length() - 3) + " * 1000 + "
                + Integer.parseInt(digits.substring(digits.length() - 3)) + ")";
        Tape.rule(x, "cost if " + sum + " = " + (value < 0 ? "-" : "") + wanted + " ? 1 : 0 end;");
        due.is("fault of [" + sum + "]", x.fault(0), 0);
        due.is("[" + sum + "] is " + value, x.pays(3, 1), 12);
    }

    private void isSo(String either, boolean so) {
        HourLines x = land(10);
        Tape.rule(x, "cost if " + either + " ? 1 : 0 end;");
        due.is("fault of [" + either + "]", x.fault(0), 0);
        due.is("[" + either + "] is so", x.pays(0, 0), so ? 12 : 0);
    }

    /** What cell 0 pays by hour 0 with a cost. */
    private void pays(String cost, int value) {
        HourLines x = land(10);
        Tape.rule(x, "cost " + cost + ";");
        due.is("pays by cost " + cost, x.pays(0, 0), value);
    }

    private static String times(String one, int n) {
        return one.repeat(n);
    }

    // The tape: promises 9 and 10

    @Says({"Promise 9: Twenty bytes come behind the tape, the highest of a first: how many it has.",
        "Promise 33: 8 bytes of the tape"})
    void twentyBytesCome() {
        HourLines x = new HourLines(2, 2);
        due.is("bytes at first", x.about(8), 0);
        for (int i = 1; i <= 15; i++) {
            due.is("feed " + i, x.feed(0, 0, 0, 0, 0), 20 * i);
            due.is("bytes", x.about(8), 20 * i);
        }
    }

    @Says("Promise 9: Twenty bytes come behind the tape, the highest of a first: how many it has.")
    void theHighestByteOfAIsTheFirst() {
        HourLines x = land(0);
        x.feed(0x636f7374, 0x20313233, 0x343b6772, 0x6f772037, 0x3b202020);
        due.is("text of [cost 1234;grow 7;   ]", x.text(), 0);
        x.by(0);
        due.is("pays", x.pays(0, 0), 1234 * 12);
    }

    @Says("Promise 9: Twenty bytes come behind the tape, the highest of a first: how many it has.")
    void theLowestByteOfEIsTheLast() {
        HourLines x = new HourLines(2, 2);
        x.feed(0x20202020, 0x20202020, 0x20202020, 0x20202020, 0x20202021);
        x.text();
        due.is("the fault's place", x.fault(1), 19);
    }

    @Says("Promise 9: Twenty bytes come behind the tape, the highest of a first: how many it has.")
    void bytesBelow0AreAbove127() {
        HourLines x = new HourLines(2, 2);
        x.feed(0x20202020, 0x202020a0, 0x20202020, 0x20202020, 0x20202020);
        x.text();
        due.is("160 is no blank", x.fault(0), 1);
        due.is("its place", x.fault(1), 7);
        x.feed(0xff202020, -1, -1, -1, -1);
        x.end(4);
        x.text();
        due.is("255 is none", x.fault(1), 0);
    }

    @Says("Promise 9: NONE, and none come, if there would be more than 300.")
    void noTwentyBytesAbove300() {
        HourLines x = new HourLines(2, 2);
        for (int i = 0; i < 15; i++) {
            x.feed(0x20202020, 0x20202020, 0x20202020, 0x20202020, 0x20202020);
        }
        due.is("the 16th", x.feed(1, 2, 3, 4, 5), -1);
        due.is("bytes", x.about(8), 300);
        due.is("they are blanks", x.text(), 0);
    }

    @Says("Promise 9: NONE, and none come, if there would be more than 300.")
    void noneOfTwentyComeIfOneIsTooMuch() {
        HourLines x = new HourLines(2, 2);
        for (int i = 0; i < 15; i++) {
            x.feed(0x20202020, 0x20202020, 0x20202020, 0x20202020, 0x20202020);
        }
        x.end(281);
        due.is("281 and 20", x.feed(1, 2, 3, 4, 5), -1);
        due.is("bytes", x.about(8), 281);
        due.is("they are blanks", x.text(), 0);
    }

    @Says("Promise 9: NONE, and none come, if there would be more than 300.")
    void theLastTwentyBytesCome() {
        HourLines x = new HourLines(2, 2);
        for (int i = 0; i < 15; i++) {
            x.feed(0x20202020, 0x20202020, 0x20202020, 0x20202020, 0x20202020);
        }
        x.end(280);
        due.is("280 and 20", x.feed(0x20202020, 0x20202020, 0x20202020, 0x20202020, 0x20202021), 300);
        x.text();
        due.is("the last byte's place", x.fault(1), 299);
    }

    @Says("Promise 10: The tape has its first n bytes alone: n.")
    void endKeepsTheFirstBytes() {
        HourLines x = land(0);
        x.feed(0x636f7374, 0x20313b21, 0, 0, 0);
        due.is("all of it", x.end(20), 20);
        due.is("seven", x.end(7), 7);
        due.is("bytes", x.about(8), 7);
        due.is("text of [cost 1;]", x.text(), 0);
    }

    @Says("Promise 10: The tape has its first n bytes alone: n.")
    void endAtNothing() {
        HourLines x = new HourLines(2, 2);
        due.is("of an empty tape", x.end(0), 0);
        x.feed(1, 2, 3, 4, 5);
        due.is("of another", x.end(0), 0);
        due.is("bytes", x.about(8), 0);
        due.is("text of none", x.text(), 0);
    }

    @Says("Promise 10: The tape has its first n bytes alone: n.")
    void feedComesBehindTheEnd() {
        HourLines x = land(0);
        x.feed(0x636f7374, 0x21212121, 0x21212121, 0x21212121, 0x21212121);
        x.end(4);
        due.is("bytes", x.feed(0x20393b20, 0x20202020, 0x20202020, 0x20202020, 0x20202020), 24);
        due.is("text of [cost 9;]", x.text(), 0);
    }

    /** A text whose tape is cut: what stood behind the cut is read no more. */
    private void cut(String text, int n, int fault, int place) {
        HourLines x = new HourLines(2, 2);
        Tape.put(x, text);
        due.is("end(" + n + ") of [" + text + "]", x.end(n), n);
        due.is("text", x.text(), fault == 0 ? 0 : -1);
        due.is("its fault", x.fault(0), fault);
        due.is("its place", x.fault(1), place);
    }

    @Says("Promise 10: The tape has its first n bytes alone: n.")
    void nothingBehindTheEndIsRead() {
        cut("cost offs;", 8, 1, 8);
        cut("cost off;", 7, 1, 5);
        cut("cost 1000000;", 9, 1, 9);
        cut("stay 1<=1;", 7, 1, 7);
        cut("stay 1>=1;", 7, 1, 7);
        cut("cost 1;", 6, 1, 6);
        cut("cost 1;!", 7, 0, -1);
        cut("grow 1;cost 1;", 11, 1, 11);
        cut("grow 1;cost 1;", 10, 1, 7);
    }

    @Says("Promise 10: NONE, and nothing is done, if it has not so many,")
    void endBehindTheTape() {
        HourLines x = new HourLines(2, 2);
        for (int n : new int[] {1, 20, 300, MAX}) {
            due.is("end(" + n + ") of an empty tape", x.end(n), -1);
        }
        x.feed(0, 0, 0, 0, 0);
        for (int n : new int[] {21, 300, 301, MAX}) {
            due.is("end(" + n + ") of twenty bytes", x.end(n), -1);
            due.is("bytes", x.about(8), 20);
        }
        x.end(12);
        due.is("bytes that were there", x.end(13), -1);
        due.is("bytes", x.about(8), 12);
    }

    @Says("Promise 10: or n is below 0.")
    void endBelow0() {
        HourLines x = new HourLines(2, 2);
        x.feed(0, 0, 0, 0, 0);
        for (int n : new int[] {-1, -20, MIN}) {
            due.is("end(" + n + ")", x.end(n), -1);
            due.is("bytes", x.about(8), 20);
        }
    }

    // Promise 11

    @Says({"Promise 11: The tape (empty then) is a TEXT: its number.", "Terms: II. TEXTS 0 .. 3:"})
    void fourTextsInTurn() {
        HourLines x = land(0);
        for (int i = 0; i < 4; i++) {
            due.is("text", Tape.tell(x, "cost " + (i + 1) + ";"), i);
            due.is("texts", x.about(4), i + 1);
            due.is("the tape is empty", x.about(8), 0);
        }
        for (int i = 3; i >= 0; i--) {
            x.by(i);
            due.is("pays by " + i, x.pays(0, 0), 12 * (i + 1));
        }
    }

    @Says("Promise 11: The tape (empty then) is a TEXT: its number.")
    void anEmptyTapeIsAText() {
        HourLines x = new HourLines(2, 2);
        due.is("text of an empty tape", x.text(), 0);
        due.is("fault", x.fault(0), 0);
        due.is("another", x.text(), 1);
    }

    @Says("Promise 11: NONE: it has a FAULT;")
    void aTapeWithAFaultIsNoText() {
        HourLines x = new HourLines(2, 2);
        due.is("text", Tape.tell(x, "cost ;"), -1);
        due.is("texts", x.about(4), 0);
        due.is("the tape is empty", x.about(8), 0);
        due.is("the next has number 0", Tape.tell(x, "cost 1;"), 0);
        due.is("one with a fault", Tape.tell(x, "!"), -1);
        due.is("the next has number 1", Tape.tell(x, ""), 1);
    }

    @Says("Promise 11: or (the tape stays) there are 4.")
    void noFifthText() {
        HourLines x = land(0);
        for (int i = 0; i < 4; i++) {
            Tape.tell(x, "cost 1;");
        }
        Tape.put(x, "cost 2;");
        due.is("a fifth", x.text(), -1);
        due.is("texts", x.about(4), 4);
        due.is("the tape stays", x.about(8), 7);
        due.is("no fault", x.fault(0), 0);
        for (int i = 0; i < 4; i++) {
            x.by(i);
            due.is("pays by " + i, x.pays(0, 0), 12);
        }
        x.back();
        due.is("the tape is a text once there is room", x.text(), 0);
    }

    @Says({"Promise 11: or (the tape stays) there are 4.", "Promise 12: Of the latest text that was read:"})
    void aFifthTextIsNotRead() {
        HourLines x = new HourLines(2, 2);
        for (int i = 0; i < 4; i++) {
            x.text();
        }
        Tape.put(x, "!");
        due.is("a fifth", x.text(), -1);
        due.is("the tape stays", x.about(8), 1);
        due.is("fault of the fourth", x.fault(0), 0);
        due.is("its place", x.fault(1), -1);
    }

    // Promise 12

    @Says("Promise 12: 0 its FAULT (0 without),")
    void noFaultIs0() {
        HourLines x = new HourLines(2, 2);
        x.text();
        due.is("fault(0)", x.fault(0), 0);
    }

    @Says("Promise 12: 1 its place (NONE without).")
    void noFaultHasNoPlace() {
        HourLines x = new HourLines(2, 2);
        x.text();
        due.is("fault(1)", x.fault(1), -1);
        Tape.tell(x, "!");
        due.is("the first byte's", x.fault(1), 0);
        x.text();
        due.is("none again", x.fault(1), -1);
    }

    @Says("Promise 12: Of the latest text that was read:")
    void theLatestFaultAlone() {
        HourLines x = new HourLines(2, 2);
        Tape.tell(x, "cost 10000;");
        due.is("the first", x.fault(0) * 100 + x.fault(1), 205);
        Tape.tell(x, "cost 1;cost 1;");
        due.is("the second", x.fault(0) * 100 + x.fault(1), 407);
        Tape.put(x, "!");
        due.is("not ahead of its reading", x.fault(0) * 100 + x.fault(1), 407);
    }

    @Says("Promise 12: NONE for others,")
    void noFaultOfOthers() {
        HourLines x = new HourLines(2, 2);
        Tape.tell(x, "!");
        for (int what : new int[] {-1, 2, 3, MIN, MAX}) {
            due.is("fault(" + what + ")", x.fault(what), -1);
        }
    }

    @Says("Promise 12: and ahead of any.")
    void noFaultAheadOfAny() {
        HourLines x = new HourLines(2, 2);
        due.is("fault(0)", x.fault(0), -1);
        due.is("fault(1)", x.fault(1), -1);
        Tape.put(x, "!");
        due.is("fault(0) of a tape alone", x.fault(0), -1);
    }

    // Promise 13

    @Says({"Promise 13: THE TEXT (NONE: none): true.", "Terms: THE TEXT (told; at first none) rules."})
    void theTextThatRules() {
        HourLines x = land(10);
        x.cell(0, 0, 1, 0, 480, false);
        Tape.tell(x, "cost 1;");
        Tape.tell(x, "cost 2;");
        due.is("none at first", x.about(5), -1);
        due.is("pays by none", x.pays(0, 0), 120);
        due.is("by(1)", x.by(1), true);
        due.is("pays by 1", x.pays(0, 0), 24);
        due.is("by(0)", x.by(0), true);
        due.is("pays by 0", x.pays(0, 0), 12);
        due.is("by(-1)", x.by(-1), true);
        due.is("none", x.about(5), -1);
        due.is("pays by none", x.pays(0, 0), 120);
    }

    @Says("Promise 13: False for others.")
    void noTextThatIsNotTold() {
        HourLines x = new HourLines(2, 2);
        due.is("by(0) ahead of any", x.by(0), false);
        x.text();
        x.text();
        x.by(1);
        for (int text : new int[] {2, 3, 4, -2, MIN, MAX}) {
            due.is("by(" + text + ")", x.by(text), false);
            due.is("THE TEXT stays", x.about(5), 1);
        }
        x.text();
        x.text();
        due.is("by(3) of four", x.by(3), true);
        due.is("by(4) of four", x.by(4), false);
    }

    // Promise 14

    @Says({"Promise 14: OFF (what 0), dark (1) of a CELL by an HOUR in a MONTH.",
        "Terms: OFF of a CELL by an HOUR: OFFSET - SUN."})
    void offAtItsLeastAndMost() {
        HourLines x = land(0, 300);
        x.cell(3, 300, 0, 0, 0, false);
        x.summer(11, 11);
        due.is("the least", x.off(3, 0, 0, 0), -300);
        due.is("in summer", x.off(3, 0, 11, 0), -240);
        due.is("the most", x.off(0, 1, 10, 0), 300);
        due.is("in summer", x.off(0, 1, 11, 0), 360);
    }

    @Says({"Promise 14: OFF (what 0), dark (1) of a CELL by an HOUR in a MONTH.",
        "Terms: dark (RISE less (BEGIN - OFF), 0 at least);"})
    void darkIs0AtLeast() {
        HourLines x = land(0);
        x.cell(0, 0, 0, 0, 359, false);
        x.cell(1, 0, 0, 0, 360, false);
        x.cell(2, 0, 0, 0, 361, false);
        x.cell(3, 300, 0, 0, 900, false);
        due.is("a minute", x.off(0, 0, 0, 1), 1);
        due.is("none", x.off(1, 0, 0, 1), 0);
        due.is("a minute less", x.off(2, 0, 0, 1), 0);
        due.is("840 less", x.off(3, 0, 0, 1), 0);
    }

    @Says("Terms: dark (RISE less (BEGIN - OFF), 0 at least);")
    void darkAtItsMost() {
        HourLines x = land(300);
        x.cell(0, 0, 0, 0, 0, false);
        x.rise(11, 720);
        x.summer(11, 11);
        due.is("the most", x.off(0, 0, 11, 1), 1080);
        Tape.rule(x, "cost if month = 11 ? dark : 0 end;");
        due.is("in a text", x.pays(0, 0), 1080);
    }

    private void refusesOff(int cell, int hour, int month, int what) {
        due.is("off(" + cell + ", " + hour + ", " + month + ", " + what + ")",
                land(0, 10).off(cell, hour, month, what), NO_MINUTES);
    }

    @Says("Promise 14: -100000 for others.")
    void noOffOfAnotherCell() {
        refusesOff(-1, 0, 0, 0);
        refusesOff(4, 0, 0, 0);
        refusesOff(MIN, 0, 0, 1);
        refusesOff(MAX, 0, 0, 1);
    }

    @Says("Promise 14: -100000 for others.")
    void noOffByAnotherHour() {
        refusesOff(0, -1, 0, 0);
        refusesOff(0, 2, 0, 0);
        refusesOff(0, 3, 0, 1);
        refusesOff(0, MIN, 0, 1);
        refusesOff(0, MAX, 0, 1);
        due.is("without hours", new HourLines(2, 2).off(0, 0, 0, 0), NO_MINUTES);
    }

    @Says("Promise 14: -100000 for others.")
    void noOffInAnotherMonth() {
        refusesOff(0, 0, -1, 0);
        refusesOff(0, 0, 12, 0);
        refusesOff(0, 0, MIN, 1);
        refusesOff(0, 0, MAX, 1);
    }

    @Says("Promise 14: -100000 for others.")
    void noOffOfAnotherKind() {
        refusesOff(0, 0, 0, -1);
        refusesOff(0, 0, 0, 2);
        refusesOff(0, 0, 0, MIN);
        refusesOff(0, 0, 0, MAX);
    }

    // Promise 15

    @Says({"Promise 15: PAYS of a CELL by an HOUR.",
        "Terms: PAYS of a CELL by an HOUR: cost (0 at least, 9999 at most; without: away * people, as much as it is) "
        + "of all 12 MONTHS together."})
    void paysByItsLastHour() {
        HourLines x = land(0, 1, 2, 3);
        x.cell(3, 0, 5, 0, 480, false);
        for (int k = 0; k < 4; k++) {
            due.is("pays by " + k, x.pays(3, k), 60 * k);
        }
    }

    @Says("Terms: cost (0 at least, 9999 at most;")
    void costIs0AtLeast() {
        pays("0", 0);
        pays("-1", 0);
        pays("-1000 * 1000", 0);
        pays("1", 12);
    }

    @Says("Terms: cost (0 at least, 9999 at most;")
    void costIs9999AtMost() {
        pays("9998", 9998 * 12);
        pays("9999", 9999 * 12);
        pays("9999 + 1", 9999 * 12);
        pays("1000 * 1000", 9999 * 12);
    }

    @Says("Terms: of all 12 MONTHS together.")
    void costIsBoundedMonthByMonth() {
        pays("if month = 0 ? 9999 + 9999 : 0 end", 9999);
        pays("if month = 11 ? 9999 + 9999 : 1 end", 9999 + 11);
        pays("if month = 5 ? - 9999 : 1 end", 11);
    }

    @Says("Terms: of all 12 MONTHS together.")
    void monthsAreFrom0To11() {
        pays("month", 66);
        pays("if month = 0 ? 1 : 0 end", 1);
        pays("if month = 11 ? 1 : 0 end", 1);
        pays("if month < 0 or month > 11 ? 1 : 0 end", 0);
    }

    @Says("Terms: without: away * people, as much as it is)")
    void withoutCostAsMuchAsItIs() {
        HourLines x = land(300);
        x.summer(0, 11);
        x.cell(0, 0, 999, 0, 480, false);
        due.is("without a text", x.pays(0, 0), 360 * 999 * 12);
        Tape.rule(x, "grow 1; stay 1 = 1;");
        due.is("by a text without cost", x.pays(0, 0), 360 * 999 * 12);
        Tape.rule(x, "cost away * people;");
        due.is("by a text with it", x.pays(0, 0), 9999 * 12);
        due.is("without people", x.pays(1, 0), 0);
    }

    @Says("Terms: without: away * people, as much as it is)")
    void withoutCostByEachMonthsOff() {
        HourLines x = land(0);
        x.cell(0, 20, 3, 0, 480, false);
        x.summer(11, 1);
        due.is("twenty behind, forty ahead in summer", x.pays(0, 0), (9 * 20 + 3 * 40) * 3);
    }

    @Says("Promise 15: PAYS of a CELL by an HOUR.")
    void paysByWhatIsToldLast() {
        HourLines x = land(0);
        x.cell(0, 0, 1, 0, 480, false);
        due.is("at first", x.pays(0, 0), 0);
        x.hour(10);
        due.is("by the new hour", x.pays(0, 1), 120);
        x.summer(0, 0);
        due.is("by the new summer", x.pays(0, 1), 180);
        x.cell(0, 10, 2, 0, 480, false);
        due.is("by the new sun and people", x.pays(0, 1), 120);
        Tape.rule(x, "cost dark;");
        due.is("by the new text", x.pays(0, 1), 0);
        x.rise(11, 500);
        due.is("by the new rise", x.pays(0, 1), 20);
        x.cell(0, 10, 2, 0, 479, false);
        due.is("by the new begin", x.pays(0, 1), 21);
        x.by(-1);
        due.is("by no text", x.pays(0, 1), 120);
        x.back();
        x.hour(5);
        due.is("behind back", x.pays(0, 0), 0);
    }

    @Says("Promise 15: NONE for others.")
    void noPaysOfAnotherCell() {
        for (int c : new int[] {-1, 4, MIN, MAX}) {
            due.is("cell " + c, land(0).pays(c, 0), -1);
        }
    }

    @Says("Promise 15: NONE for others.")
    void noPaysByAnotherHour() {
        for (int k : new int[] {-1, 2, 3, MIN, MAX}) {
            due.is("hour " + k, land(0, 1).pays(0, k), -1);
        }
        due.is("without hours", new HourLines(2, 2).pays(0, 0), -1);
    }

    // II. Tokens

    @Says("Terms: of up to 300 bytes.")
    void aTextOf300Bytes() {
        HourLines x = land(0);
        String text = "cost 1" + times("+1", 146) + " ;";
        due.is("its length", text.length(), 300);
        due.is("text", Tape.tell(x, text), 0);
        x.by(0);
        due.is("all of it is worked", x.pays(0, 0), 147 * 12);
    }

    @Says("Terms: of up to 300 bytes.")
    void theEndBehind300Bytes() {
        fault("cost 1" + times("+1", 147), 1, 300);
        fault(times(" ", 296) + "cost", 1, 300);
        fine(times("\n", 300));
    }

    @Says("Terms: of up to 300 bytes.")
    void theLastTokenOf300Bytes() {
        fault(times(" ", 297) + "cos", 1, 297);
        fault(times(" ", 299) + "c", 1, 299);
        fault("stay 1" + times(" ", 293) + "<", 1, 300);
        fault("stay 1" + times(" ", 293) + ">", 1, 300);
        fault("stay 1" + times(" ", 292) + "<=", 1, 300);
        fault("cost " + times(" ", 291) + "9999", 1, 300);
        fault("cost " + times(" ", 290) + "10000", 2, 295);
        fault("cost " + times(" ", 294) + "(", 1, 300);
        fine("cost 1" + times(" ", 293) + ";");
    }

    @Says({"Terms: of up to 300 bytes.", "Terms: II. TEXTS 0 .. 3:"})
    void fourTextsOf300Bytes() {
        HourLines x = land(0);
        for (int i = 0; i < 4; i++) {
            due.is("text " + i, Tape.tell(x, "cost " + i + times("+1", 146) + " ;"), i);
        }
        for (int i = 0; i < 4; i++) {
            x.by(i);
            due.is("pays by " + i, x.pays(0, 0), 12 * (146 + i));
        }
    }

    @Says("Terms: TOKENS, blanks (32, 10) aside:")
    void blanksAre32And10() {
        fine(" \n cost \n\n 1\n; \n");
        fine(" ");
        fine("\n");
    }

    @Says("Terms: TOKENS, blanks (32, 10) aside:")
    void noOtherByteIsABlank() {
        for (int sign : new int[] {0, 1, 8, 9, 11, 12, 13, 31, 33, 127, 128, 133, 160, 255}) {
            fault("cost 1" + (char) sign + ";", 1, 6);
            fault((char) sign + "", 1, 0);
        }
    }

    @Says("Terms: letters a .. z, A .. Z one behind the other (one TOKEN),")
    void lettersStandTogether() {
        for (String sign : new String[] {"a", "z", "A", "Z"}) {
            fault("cost off" + sign + ";", 1, 5);
            fault("cost " + sign + "off;", 1, 5);
            fault("cost of" + sign + "f;", 1, 5);
        }
        fault("co st 1;", 1, 0);
        fault("cost o\nff;", 1, 5);
    }

    @Says("Terms: letters a .. z, A .. Z one behind the other (one TOKEN),")
    void noOtherSignIsALetter() {
        for (String sign : new String[] {"@", "[", "`", "{", "_"}) {
            fault("cost off" + sign + ";", 1, 8);
        }
        for (int sign : new int[] {192, 224, 233, 255}) {
            fault("cost off" + (char) sign + ";", 1, 8);
        }
    }

    @Says("Terms: letters a .. z, A .. Z one behind the other (one TOKEN),")
    void wordsAndNumbersNeedNoBlank() {
        fine("cost1;grow2;stay3=4;");
        fault("cost 12off;", 1, 7);
        fault("cost off12;", 1, 8);
        fine("cost-off;");
    }

    @Says("Terms: digits likewise (NUMBERS, 0 .. 9999),")
    void digitsStandTogether() {
        pays("0", 0);
        pays("10", 120);
        pays("987", 987 * 12);
        fault("cost 1 0;", 1, 7);
        fault("cost 1/;", 1, 7);
        fault("cost 1:;", 1, 6);
    }

    @Says("Terms: digits likewise (NUMBERS, 0 .. 9999),")
    void numbersFrom0To9999() {
        pays("9999", 9999 * 12);
        pays("0000009999", 9999 * 12);
        pays(times("0", 280) + "1", 12);
    }

    @Says({"Terms: 2 a NUMBER above 9999.", "Terms: digits likewise (NUMBERS, 0 .. 9999),"})
    void noNumberAbove9999() {
        fault("cost 10000;", 2, 5);
        fault("cost 00010000;", 2, 5);
        fault("cost 99999;", 2, 5);
        fault("cost 1+10000", 2, 7);
    }

    @Says("Terms: 2 a NUMBER above 9999.")
    void aLongNumberDoesNotWrapRound() {
        fault("cost 2147483648;", 2, 5);
        fault("cost 4294967296;", 2, 5);
        fault("cost 4294967297;", 2, 5);
        fault("cost 18446744073709551616;", 2, 5);
        fault("cost 18446744073709551617;", 2, 5);
        fault("cost 340282366920938463463374607431768211456;", 2, 5);
        fault("cost 1" + times("0", 290) + ";", 2, 5);
    }

    @Says("Terms: <= >= < > = # + - * / ( ) ; ? : (the longest).")
    void theLongestSign() {
        fine("stay 1<=1;");
        fine("stay 1>=1;");
        fault("stay 1< =1;", 1, 8);
        fault("stay 1> =1;", 1, 8);
        fault("stay 1=<1;", 1, 7);
        fault("stay 1=>1;", 1, 7);
        fault("stay 1<>1;", 1, 7);
        fault("stay 1<==1;", 1, 8);
        fault("stay 1==1;", 1, 7);
        fault("stay 1<<=1;", 1, 7);
        fine("stay 1<-1;");
        fault("stay 1<", 1, 7);
        fault("stay 1>=", 1, 8);
        fault("stay 1:1;", 1, 6);
        fault("stay 1?1;", 1, 6);
        fault("cost if 1=1?1<=2 end;", 1, 13);
        fault("cost if 1=1>=1:2 end;", 1, 11);
    }

    @Says("Terms: <= >= < > = # + - * / ( ) ; ? : (the longest).")
    void noOtherSignIsAToken() {
        for (char sign : "!\"$%&',.@[\\]^_`{|}~".toCharArray()) {
            fault("cost 1" + sign + "1;", 1, 6);
            fault("cost " + sign + "1;", 1, 5);
        }
    }

    // II. Clauses

    @Says("Terms: {CLAUSE}: cost SUM ; or grow SUM ; or stay EITHER ; (each once).")
    void noClauseOrAllInAnyOrder() {
        fine("");
        fine("cost 1;");
        fine("grow 1;");
        fine("stay 1=1;");
        fine("stay 1=1;grow 1;cost 1;");
        fine("grow 1;cost 1;stay 1=1;");
        fault(";", 1, 0);
        fault("cost 1;;", 1, 7);
    }

    @Says({"Terms: 4 a CLAUSE's word for the second time (at it).",
        "Terms: {CLAUSE}: cost SUM ; or grow SUM ; or stay EITHER ; (each once)."})
    void eachClauseOnce() {
        fault("cost 1;cost 2;", 4, 7);
        fault("grow 1;grow 2;", 4, 7);
        fault("stay 1=1;stay 1=1;", 4, 9);
        fault("cost 1;grow 1;stay 1=1; \n cost", 4, 26);
        fault("cost 1;grow 1;grow 10000;", 4, 14);
        fault("cost 1;grow 1;cost !", 4, 14);
    }

    @Says("Terms: {CLAUSE}: cost SUM ; or grow SUM ; or stay EITHER ; (each once).")
    void costAndGrowAreSumsStayIsNot() {
        fault("cost 1=1;", 1, 6);
        fault("grow 1=1;", 1, 6);
        fault("stay 1;", 1, 6);
        fault("cost not 1=1;", 1, 5);
        fault("cost 1", 1, 6);
        fault("stay 1=1", 1, 8);
    }

    @Says({"Terms: EITHER: BOTH {or BOTH}.", "Terms: BOTH: ASK {and ASK}."})
    void oneAskOrMany() {
        isSo("1=1", true);
        isSo("1=2 or 1=2 or 1=2 or 1=1", true);
        isSo("1=1 and 1=1 and 1=1 and 1=2", false);
        isSo("1=1 or 1=1 and 1=2", true);
        isSo("1=2 and 1=1 or 1=1", true);
        fault("stay 1=1 or;", 1, 11);
        fault("stay 1=1 and;", 1, 12);
        fault("stay or 1=1;", 1, 5);
        fault("stay 1=1 or and 1=1;", 1, 12);
        fault("stay 1=1 1=1;", 1, 9);
    }

    @Says("Terms: ASK: not ASK, or SUM one of < <= > >= = # (unlike) SUM.")
    void asksAtTheirEdges() {
        String[] signs = {"<", "<=", ">", ">=", "=", "#"};
        String[] so = {"x--", "xx-", "--x", "-xx", "-x-", "x-x"};
        for (int i = 0; i < signs.length; i++) {
            for (int k = 0; k < 3; k++) {
                boolean is = so[i].charAt(k) == 'x';
                isSo(k - 1 + signs[i] + "0", is);
                isSo("1000*1000-9+" + 2 * k + signs[i] + "1000*1000-7", is);
                isSo("9-1000*1000-" + (4 - 2 * k) + signs[i] + "7-1000*1000", is);
            }
        }
    }

    @Says("Terms: ASK: not ASK, or SUM one of < <= > >= = # (unlike) SUM.")
    void noAskOfThreeSums() {
        fault("stay 1<2<3;", 1, 8);
        fault("stay 1;", 1, 6);
        fault("stay (1=1);", 1, 7);
        fault("stay not 1;", 1, 10);
        fault("stay 1 not = 1;", 1, 7);
        fault("stay 1=not 1;", 1, 7);
        isSo("not 1=2", true);
        isSo("not not 1=2", false);
        isSo("not 1=2 and 1=2", false);
        isSo("not 1=1 or 1=1", true);
    }

    @Says({"Terms: SUM: PRODUCT {+ or - PRODUCT}.", "Terms: PRODUCT: ONE {* or / ONE}.", "Terms: From the left;"})
    void oneOrMany() {
        works("7", 7);
        works("7 - 2 - 1", 4);
        works("7 - 2 + 1", 6);
        works("2 * 3 * 4", 24);
        works("100 / 10 / 5", 2);
        works("7 / 2 * 2", 6);
        works("7 * 2 / 3", 4);
        works("1 + 2 * 3 - 8 / 4", 5);
        fault("cost 1 + ;", 1, 9);
        fault("cost 1 * ;", 1, 9);
        fault("cost * 1;", 1, 5);
        fault("cost + 1;", 1, 5);
    }

    @Says("Terms: ONE: NUMBER, NAME, ( SUM ), - ONE, or if EITHER ? SUM : SUM end.")
    void oneOfEachKind() {
        works("5", 5);
        works("state", 4);
        works("(5)", 5);
        works("-5", -5);
        works("- - 5", 5);
        works("2 - - 5", 7);
        works("- 5 + 7", 2);
        works("- 2 * 3", -6);
        works("2 * - 3", -6);
        works("-(2 + 3)", -5);
        works("- if 1=1 ? 2 : 3 end", -2);
        works("if 1=1 ? 2 : 3 end * 2", 4);
        works("if 1=2 ? 2 : 3 end * 2", 6);
    }

    @Says("Terms: ONE: NUMBER, NAME, ( SUM ), - ONE, or if EITHER ? SUM : SUM end.")
    void noOneWithAPartMissing() {
        fault("cost ();", 1, 6);
        fault("cost (1;", 1, 7);
        fault("cost 1);", 1, 6);
        fault("cost -;", 1, 6);
        fault("cost if ? 1 : 2 end;", 1, 8);
        fault("cost if 1=1 1 : 2 end;", 1, 12);
        fault("cost if 1=1 ? : 2 end;", 1, 14);
        fault("cost if 1=1 ? 1 2 end;", 1, 16);
        fault("cost if 1=1 ? 1 end;", 1, 16);
        fault("cost if 1=1 ? 1 : end;", 1, 18);
        fault("cost if 1=1 ? 1 : 2;", 1, 19);
        fault("cost end;", 1, 5);
        fault("cost (1=1);", 1, 7);
    }

    // II. Names

    @Says("Terms: NAMES: off, away (|OFF|), people, state, town (1, 0), hour (its number), month;")
    void offAndAwayBelow0() {
        HourLines x = land(0, 30);
        x.cell(0, 30, 0, 0, 480, false);
        Tape.rule(x, "cost off + 100;");
        due.is("off -30", x.pays(0, 0), 70 * 12);
        due.is("off 0", x.pays(0, 1), 100 * 12);
        Tape.rule(x, "cost away + 100;");
        due.is("away 30", x.pays(0, 0), 130 * 12);
        due.is("away 0", x.pays(0, 1), 100 * 12);
        x.summer(4, 4);
        due.is("both sides of 0", x.pays(0, 0), 130 * 12);
    }

    @Says("Terms: NAMES: off, away (|OFF|), people, state, town (1, 0), hour (its number), month;")
    void peopleStateTownHourMonth() {
        HourLines x = land(0, 1, 2, 3);
        x.cell(1, 0, 999, 5, 480, true);
        Tape.rule(x, "cost people;");
        due.is("people 999", x.pays(1, 0), 999 * 12);
        due.is("people 0", x.pays(0, 0), 0);
        Tape.rule(x, "cost state + 10 * town + 20;");
        due.is("state 5, a town", x.pays(1, 0), 35 * 12);
        due.is("state 0, none", x.pays(0, 0), 20 * 12);
        Tape.rule(x, "cost hour + 10 * month;");
        due.is("hour 0", x.pays(0, 0), 660);
        due.is("hour 3", x.pays(0, 3), 660 + 36);
    }

    @Says("Terms: NAMES: off, away (|OFF|), people, state, town (1, 0), hour (its number), month;")
    void noOtherNames() {
        for (String name : new String[] {"Off", "OFF", "of", "offs", "aways", "awa", "person", "states", "towns", "hours",
            "months", "darks", "alones", "a", "x", "sun", "begin", "rise", "kept", "ands", "ends", "an", "en", "i"}) {
            fault("cost " + name + ";", 1, 5);
        }
        for (String word : new String[] {"costs", "cos", "Cost", "growth", "stays", "off", "end", "not"}) {
            fault(word + " 1;", 1, 0);
        }
    }

    @Says("Terms: in cost 0).")
    void aloneIs0InCost() {
        HourLines x = land(0, 10);
        x.tie(0, 1, 99);
        x.part(1, 1);
        Tape.rule(x, "cost if alone = 0 ? 1 : 2 end;");
        due.is("pays by its own hour", x.pays(0, 0), 12);
        due.is("pays by the other", x.pays(0, 1), 12);
        due.is("all pay", x.judge(1), 48);
        due.is("in when", x.when(2), 48 + 990);
        due.is("in best", x.best(3, false, -1), 48);
    }

    @Says("Terms: alone (of its TIES the WEIGHTS to CELLS of another HOUR, by THE PARTING,")
    void aloneByThePartingInGrow() {
        HourLines x = land(0, 10);
        for (int c = 0; c < 4; c++) {
            x.cell(c, 0, 100, 0, 480, false);
        }
        x.tie(0, 1, 1);
        x.tie(1, 0, 2);
        x.tie(0, 2, 40);
        x.tie(3, 2, 7);
        x.part(1, 1);
        Tape.rule(x, "grow alone;");
        x.years(1, false);
        due.is("both its ties to 1", x.about(10), 103);
        due.is("from the other end", x.about(11), 103);
        due.is("none of another hour", x.about(12), 100);
        due.is("its ties alone", x.about(13), 100);
    }

    @Says("Terms: in FREE by HOURS as they are then;")
    void aloneByTheHoursInFree() {
        HourLines x = land(0, 10);
        x.cell(0, 10, 9, 0, 480, false);
        x.tie(0, 1, 5);
        // Cell 0 goes to hour 1 ahead of cell 1, which is alone then.
        Tape.rule(x, "stay alone = 5;");
        due.is("cell 0 goes", x.free(10), 1);
        due.is("cell 1 stays, being alone", x.free(11), 0);
        due.is("changes", x.free(1), 1);
        x.part(1, 1);
        due.is("cell 0 stays, being alone", x.free(10), 0);
    }

    // II. From the left

    @Says("Terms: / cuts towards 0,")
    void cutTowards0() {
        works("7 / 2", 3);
        works("-7 / 2", -3);
        works("7 / -2", -3);
        works("-7 / -2", 3);
        works("1 / 2", 0);
        works("-1 / 2", 0);
        works("1 / 1", 1);
        works("9999 / 10000 * 1 / 1".replace("10000", "(9999 + 1)"), 0);
    }

    @Says("Terms: by 0 it is 0;")
    void by0ItIs0() {
        works("7 / 0", 0);
        works("-7 / 0", 0);
        works("0 / 0", 0);
        works("1000 * 1000 / (1 - 1)", 0);
        works("7 / 0 + 5", 5);
    }

    @Says("Terms: what is above 1000000 (below the same less) is that, at each step.")
    void aMillionAtMost() {
        works("1000 * 1000", 1000000);
        works("1000 * 1000 - 1", 999999);
        works("1000 * 1000 + 1", 1000000);
        works("1000 * 1000 + 1 - 1", 999999);
        works("1000 * 1001", 1000000);
        works("1000 * 1000 * 1000 / 1000", 1000);
        works("0 - - 1000 * 1000 + 9", 1000000);
        works("1000 * 1000 - - 5 - 5", 999995);
    }

    @Says("Terms: what is above 1000000 (below the same less) is that, at each step.")
    void aMillionBelow0AtLeast() {
        works("-1000 * 1000", -1000000);
        works("-1000 * 1000 + 1", -999999);
        works("-1000 * 1000 - 1", -1000000);
        works("-1000 * 1000 - 1 + 1", -999999);
        works("-1000 * 1001", -1000000);
        works("1000 * 1000 * -1000 / 1000", -1000);
        works("-(1000 * 1000)", -1000000);
        works("-(-1000 * 1000)", 1000000);
    }

    @Says("Terms: what is above 1000000 (below the same less) is that, at each step.")
    void noStepWrapsRound() {
        works("9999 * 9999", 1000000);
        works("9999 * 9999 * 9999 * 9999", 1000000);
        works("1000 * 1000 * (1000 * 1000)", 1000000);
        works("1000 * 1000 * (-1000 * 1000)", -1000000);
        works("-1000 * 1000 * (-1000 * 1000)", 1000000);
        works("-1000 * 1000 - 1000 * 1000", -1000000);
        works("1000 * 1000 + 1000 * 1000", 1000000);
    }

    @Says("Terms: or and and look at both sides always; of if just the SUM that is chosen is worked.")
    void orAndAndIf() {
        isSo("1=1 or 1/0=0", true);
        isSo("1=2 and 1/0=0", false);
        isSo("1=2 or 1=2", false);
        isSo("1=2 or 1=1", true);
        isSo("1=1 or 1=2", true);
        isSo("1=1 and 1=2", false);
        isSo("1=2 and 1=1", false);
        isSo("1=1 and 1=1", true);
        String[] so = {"1<2", "1<=1", "2>1", "1>=1", "1=1", "1#2", "not 1=2", "not not 1=1"};
        for (String one : so) {
            for (String other : so) {
                isSo(one + " and " + other, true);
                isSo("not " + one + " or not " + other, false);
            }
        }
        works("if 1=1 ? 1 : 2/0 end", 1);
        works("if 1=2 ? 2/0 : 3 end", 3);
        works("if 1=1 ? if 1=2 ? 4 : 5 end : 6 end", 5);
        works("if 1=2 ? 4 : if 1=1 ? 5 : 6 end end", 5);
        works("if if 1=1 ? 1 : 2 end = 1 ? 3 : 4 end", 3);
    }

    // II. Faults

    @Says("Terms: at the TOKEN's first byte (of the end at the length),")
    void theTokensFirstByte() {
        fault("cost 1 alone;", 1, 7);
        fault("cost 1  \n 1234;", 1, 10);
        fault("  costs 1;", 1, 2);
        fault("stay 1 <= >= 1;", 1, 10);
        fault("cost 1 + 12345;", 2, 9);
    }

    @Says("Terms: at the TOKEN's first byte (of the end at the length),")
    void theEndIsAtTheLength() {
        fault("cost", 1, 4);
        fault("cost ", 1, 5);
        fault("cost 1", 1, 6);
        fault("cost 1 \n ", 1, 9);
        fault("stay 1<=", 1, 8);
        fault("cost (((((((( ", 1, 14);
    }

    @Says("Terms: FAULTS, the first as TOKENS are come to,")
    void theFirstFaultAlone() {
        fault("cost 10000 !", 2, 5);
        fault("cost ! 10000", 1, 5);
        fault("cost 1;cost !", 4, 7);
        fault("cost 10000;cost 1;", 2, 5);
        fault("cost (((((((((10000", 3, 13);
        fault("cost 10000 + (((((((((", 2, 5);
        fault("grow 1;grow 10000", 4, 7);
    }

    @Says("Terms: of one the least:")
    void ofOneTokenTheLeastFault() {
        fault("10000", 1, 0);
        fault("cost 1 10000;", 1, 7);
        fault("cost 1;10000;", 1, 7);
        fault("cost cost", 1, 5);
        fault("cost 1;grow cost", 1, 12);
        fault("cost ((((((((1(", 1, 14);
        fault("cost ((((((((not", 1, 13);
        fault("cost ((((((((1 if", 1, 15);
        fault("cost ((((((((1 not", 1, 15);
    }

    @Says("Terms: 1 it can't stand there, or is none.")
    void itCantStandThereOrIsNone() {
        fault("off", 1, 0);
        fault("1", 1, 0);
        fault("cost 1 off;", 1, 7);
        fault("cost cost;", 1, 5);
        fault("cost !;", 1, 5);
        fault("cost abc;", 1, 5);
        fault("=", 1, 0);
        fault("cost 1;=", 1, 7);
    }

    @Says("Terms: 3 the 9th of ( not if and - (of one ONE) that are open around one another (at it).")
    void eightParenthesesNotNine() {
        fine("cost " + times("(", 8) + "1" + times(")", 8) + ";");
        fault("cost " + times("(", 9) + "1" + times(")", 9) + ";", 3, 13);
    }

    @Says("Terms: 3 the 9th of ( not if and - (of one ONE) that are open around one another (at it).")
    void eightMinusesNotNine() {
        fine("cost " + times("-", 8) + "1;");
        fault("cost " + times("-", 9) + "1;", 3, 13);
        fine("cost 1-" + times("-", 8) + "1;");
        fault("cost 1-" + times("-", 9) + "1;", 3, 15);
    }

    @Says("Terms: 3 the 9th of ( not if and - (of one ONE) that are open around one another (at it).")
    void eightNotsNotNine() {
        fine("stay " + times("not ", 8) + "1=1;");
        fault("stay " + times("not ", 9) + "1=1;", 3, 37);
    }

    @Says("Terms: 3 the 9th of ( not if and - (of one ONE) that are open around one another (at it).")
    void eightIfsNotNine() {
        fine("cost " + times("if ", 8) + "1" + times("=1?1:1 end", 8) + ";");
        fault("cost " + times("if ", 9) + "1=1", 3, 29);
        fine("cost " + times("if 1=1?", 8) + "1" + times(":1 end", 8) + ";");
        fault("cost " + times("if 1=1?", 9), 3, 61);
        fine("cost " + times("if 1=1?1:", 8) + "1" + times(" end", 8) + ";");
        fault("cost " + times("if 1=1?1:", 9), 3, 77);
    }

    @Says("Terms: 3 the 9th of ( not if and - (of one ONE) that are open around one another (at it).")
    void theNinthOfAnyKind() {
        String eight = "cost -(if not -(-(";
        fine(eight + "1))=1?1:1 end);");
        fault(eight + "-1", 3, 18);
        fault(eight + "(1", 3, 18);
        fault(eight + "if", 3, 18);
        fine(eight + "1))=-(1)?((1)):--1 end);");
        fault("cost (-(-(if not not 1=(1", 3, 23);
        fault("stay not not not not not not not not 1=if", 3, 39);
        fault("cost ((((((((if not 1=1?1:1 end", 3, 13);
        fault("cost (((((((if not 1=1?1:1 end", 3, 15);
    }

    @Says("Terms: 3 the 9th of ( not if and - (of one ONE) that are open around one another (at it).")
    void whatIsClosedCountsNoMore() {
        String eight = times("(", 8) + "1" + times(")", 8);
        fine("cost " + eight + "+" + eight + "*" + eight + ";grow " + eight + ";");
        fine("cost " + times("-", 8) + "1-" + times("-", 8) + "1*" + times("-", 8) + "1;");
        fine("stay " + times("not ", 8) + "1=1 and " + times("not ", 8) + "1=1 or " + times("not ", 8) + "1=1;");
        fine("stay not 1=1 or " + eight + "=" + eight + ";");
        fine("cost if 1=1?" + times("(", 7) + "1" + times(")", 7) + ":" + times("-", 7) + "1 end+" + eight + ";");
        fine("cost (((((((-1-(1))))))));");
    }

    @Says("Terms: 3 the 9th of ( not if and - (of one ONE) that are open around one another (at it).")
    void whatIsOpenStillCounts() {
        fault("cost (((((((-(1", 3, 13);
        fine("cost (((((((-1+(1)))))))) ;");
        fault("stay not " + times("(", 8), 3, 16);
        fault("stay not 1=" + times("(", 8), 3, 18);
        fault("cost if 1=1?" + times("(", 8), 3, 19);
        fault("cost if 1=1?1:" + times("(", 8), 3, 21);
        fault("cost (1+" + times("(", 8), 3, 15);
    }

    @Says("Terms: 3 the 9th of ( not if and - (of one ONE) that are open around one another (at it).")
    void eightIfsOfAllThereIsAreWorked() {
        String open = "7";
        for (int i = 0; i < 8; i++) {
            open = "if 1=2or 1=1and 6<0+1*" + open + "?7:1end";
        }
        HourLines x = land(0);
        due.is("in a sum", Tape.rule(x, "cost 0+1*" + open + ";"), true);
        due.is("its worth", x.pays(0, 0), 84);
        x.hour(1);
        due.is("in an ask", Tape.rule(x, "stay 1=2or 1=1and 6<0+1*" + open + ";"), true);
        x.cell(0, 1, 1, 0, 480, false);
        due.is("all stay", x.free(1), 0);
        due.is("in another", Tape.rule(x, "stay 1=2or 1=1and 7<0+1*" + open + ";"), true);
        due.is("none stays", x.free(1), 1);
    }

    @Says("Terms: 3 the 9th of ( not if and - (of one ONE) that are open around one another (at it).")
    void aMinusBetweenTwoIsNotCounted() {
        fine("cost (((((((( 1-1-1-1 )))))))) - 1;");
        fault("cost (((((((( 1--1", 3, 16);
        fine("cost 1" + times("-1", 20) + ";");
    }

    public static void main(String[] args) throws ReflectiveOperationException {
        new TextBoundsTest().run();
    }
}
