/** Promises 9 to 15: the tape, texts and their faults, and what cells pay by them. */
public final class TextTest {
    private static final int MIN = Integer.MIN_VALUE;
    private static final int MAX = Integer.MAX_VALUE;

    private final Due due = new Due();

    private void tape() {
        HourLines x = new HourLines(2, 2);
        due.is("end of an empty tape", x.end(0), 0);
        due.is("end beyond it", x.end(1), -1);
        due.is("end below 0", x.end(-1), -1);
        for (int i = 1; i <= 15; i++) {
            due.is("feed " + i, x.feed(-1, 0, MIN, MAX, 1), 20 * i);
        }
        due.is("feed 16", x.feed(0, 0, 0, 0, 0), -1);
        due.is("bytes", x.about(8), 300);
        due.is("end beyond", x.end(301), -1);
        due.is("bytes", x.about(8), 300);
        due.is("end at the length", x.end(300), 300);
        due.is("end", x.end(281), 281);
        due.is("no room for twenty", x.feed(0, 0, 0, 0, 0), -1);
        due.is("bytes", x.about(8), 281);
        due.is("end", x.end(280), 280);
        due.is("room for twenty", x.feed(0, 0, 0, 0, 0), 300);
        due.is("end", x.end(MIN), -1);
        due.is("end", x.end(MAX), -1);
        // The highest byte of a comes first: "cost" and a blank, in order.
        x.end(0);
        x.feed(('c' << 24) + ('o' << 16) + ('s' << 8) + 't', (' ' << 24) + ('7' << 16) + (';' << 8), 0, 0, 0);
        x.end(7);
        due.is("text", x.text(), 0);
        due.is("the tape is empty then", x.about(8), 0);
    }

    private void faults() {
        Object[][] all = {
            {"", 0, -1}, {" \n \n", 0, -1}, {"cost 1;", 0, -1}, {"cost1;", 0, -1}, {"cost\n1\n;\n", 0, -1},
            {"stay 1=1;grow 1;cost 1;", 0, -1}, {"cost 9999;", 0, -1}, {"cost 0000009999;", 0, -1},
            {"cost 10000;", 2, 5}, {"cost 99999999999999999999;", 2, 5}, {"10000", 1, 0}, {"cost 1 10000", 1, 7},
            {"cost 2", 1, 6}, {"cost 2 \n ", 1, 9}, {"cost", 1, 4}, {"cost ;", 1, 5}, {"cost cost", 1, 5},
            {";", 1, 0}, {"cost 1;;", 1, 7}, {"costs 1;", 1, 0}, {"Cost 1;", 1, 0}, {"cos t 1;", 1, 0},
            {"cost 1\t;", 1, 6}, {"cost 1\r;", 1, 6}, {"cost !;", 1, 5}, {"cost 1 !;", 1, 7}, {"cost \u00ff;", 1, 5},
            {"cost \0;", 1, 5}, {"cost 1; cost 1;", 4, 8}, {"cost 1; grow 1; stay 1=1; stay 1=1;", 4, 26},
            {"grow 1;grow", 4, 7}, {"cost 1 cost 1;", 1, 7}, {"cost off+away-people*state/town;", 0, -1},
            {"cost hour+month+dark+alone;", 0, -1}, {"cost offs;", 1, 5}, {"cost of;", 1, 5}, {"cost OFF;", 1, 5},
            {"cost off away;", 1, 9}, {"cost 1 = 1;", 1, 7}, {"stay 1;", 1, 6}, {"stay 1 = 1 = 1;", 1, 11},
            {"stay 1 <= 1;", 0, -1}, {"stay 1 < = 1;", 1, 9}, {"stay 1 =< 1;", 1, 8}, {"stay 1 >= 1;", 0, -1},
            {"stay 1<=1 or 1>=1 and 1#1 or not 1<1 and not not 1>1;", 0, -1}, {"stay 1 == 1;", 1, 8},
            {"stay 1 # 1 and;", 1, 14}, {"stay (1 = 1);", 1, 8}, {"stay not (1) = 1;", 0, -1},
            {"stay 1 = 1 not 1 = 1;", 1, 11}, {"stay 1 = not 1;", 1, 9}, {"stay or 1 = 1;", 1, 5},
            {"cost ();", 1, 6}, {"cost (1;", 1, 7}, {"cost 1);", 1, 6}, {"cost 1 + ;", 1, 9}, {"cost + 1;", 1, 5},
            {"cost - 1;", 0, -1}, {"cost 1 - - 1;", 0, -1}, {"cost 1 * - 1;", 0, -1}, {"cost 1 - * 1;", 1, 9},
            {"cost 2 3;", 1, 7}, {"cost if 1=1 ? 1 : 2 end;", 0, -1}, {"cost if 1=1 ? 1 : 2;", 1, 19},
            {"cost if 1=1 ? 1 end;", 1, 16}, {"cost if 1=1 : 1 end;", 1, 12}, {"cost if 1 ? 1 : 2 end;", 1, 10},
            {"cost if 1=1 ? 1 : 2 end 3;", 1, 24}, {"cost if 1=1 ? 1=1 : 2 end;", 1, 15},
            {"cost end;", 1, 5}, {"cost 12ab;", 1, 7}, {"cost ab12;", 1, 5}, {"cost 1 ? 2;", 1, 7},
            {"cost if if 1=1 ? 1 : 2 end = 1 ? 1 : 2 end;", 0, -1}, {"cost \u00e9;", 1, 5}, {"end", 1, 0},
            {"cost offz;", 1, 5}, {"cost offa;", 1, 5}, {"cost offZ;", 1, 5}, {"cost offA;", 1, 5},
            {"cost off[;", 1, 8}, {"cost off@;", 1, 8}, {"cost off`;", 1, 8}, {"cost off{;", 1, 8},
            {"cost 90/;", 1, 8}, {"cost 1:;", 1, 6}, {"stay 1<", 1, 7}, {"stay 1>", 1, 7},
            {"cost 10000 !", 2, 5}, {"cost ! 10000", 1, 5}, {"cost 1 not", 1, 7}, {"cost not 1;", 1, 5},
        };
        for (Object[] one : all) {
            fault((String) one[0], (Integer) one[1], (Integer) one[2]);
        }
    }

    private void fault(String text, int fault, int place) {
        HourLines x = new HourLines(2, 2);
        due.is("text() of [" + text + "]", Tape.tell(x, text), fault == 0 ? 0 : -1);
        due.is("fault(0) of [" + text + "]", x.fault(0), fault);
        due.is("fault(1) of [" + text + "]", x.fault(1), place);
        due.is("texts", x.about(4), fault == 0 ? 1 : 0);
        due.is("the tape is empty", x.about(8), 0);
    }

    private void depths() {
        fault("cost ((((((((1))))))));", 0, -1);
        fault("cost (((((((((1)))))))));", 3, 13);
        fault("cost --------1;", 0, -1);
        fault("cost ---------1;", 3, 13);
        fault("stay not not not not not not not not 1=1;", 0, -1);
        fault("stay not not not not not not not not not 1=1;", 3, 37);
        fault("stay not not not not not not not not 1=(1);", 3, 39);
        fault("stay not not not not not not not not 1=-1;", 3, 39);
        fault("stay not not not not not not not not 1=if 1=1?1:1 end;", 3, 39);
        fault("cost -(-(-(-(1))));", 0, -1);
        fault("cost -(-(-(-(-1))));", 3, 13);
        // One that is closed counts no more.
        fault("cost ((((((((1))))))))+((((((((1))))))));", 0, -1);
        fault("cost --------1 - --------1 * -1;", 0, -1);
        fault("stay not not not not not not not not 1=1 and not 1=1 or not (1)=1;", 0, -1);
        fault("cost -------(1)-1-(1)-(1);", 0, -1);
        fault("cost if 1=1 ? ((((((1)))))) : if 1=1 ? (((((1))))) : ------1 end end;", 0, -1);
        fault("cost if 1=1 ? ((((((1)))))) : if 1=1 ? (((((1))))) : -------1 end end;", 3, 59);
        fault("cost if not not not not not not not 1=1 ? (((((((1))))))) : (((((((1))))))) end;", 0, -1);
        fault("cost if not not not not not not not not 1=1 ? 1 : 1 end;", 3, 36);
        fault("cost (((((((( (10000", 3, 14);
        // Where it can't stand, that comes first.
        fault("cost ((((((((1(", 1, 14);
        fault("cost ((((((((not", 1, 13);
    }

    private void longest() {
        HourLines x = new HourLines(2, 2);
        String sum = "cost 1" + "+1".repeat(146);
        due.is("300 bytes, none of them ;", Tape.tell(x, sum + "  "), -1);
        due.is("the end", x.fault(1), 300);
        due.is("300 bytes", Tape.tell(x, sum + " ;"), 0);
        x.by(0);
        x.hour(0);
        due.is("all of it", x.pays(0, 0), 147 * 12);
        due.is("clause by clause", Tape.tell(x, "cost 1;".repeat(42)), -1);
        due.is("the second", x.fault(0) * 100 + x.fault(1), 407);
    }

    private void four() {
        HourLines x = new HourLines(2, 2);
        due.is("ahead of any", x.fault(0), -1);
        due.is("ahead of any", x.fault(1), -1);
        due.is("one with a fault", Tape.tell(x, "cost 10000;"), -1);
        due.is("its fault", x.fault(0), 2);
        due.is("its place", x.fault(1), 5);
        for (int i = 0; i < 4; i++) {
            due.is("by of one that isn't", x.by(i), false);
            due.is("text " + i, Tape.tell(x, "cost " + i + ";"), i);
            due.is("no fault then", x.fault(0), 0);
            due.is("no place then", x.fault(1), -1);
            due.is("by", x.by(i), true);
            due.is("THE TEXT", x.about(5), i);
        }
        Tape.put(x, "cost 5;");
        due.is("a fifth", x.text(), -1);
        due.is("the tape stays", x.about(8), 7);
        Tape.put(x, "cost");
        due.is("a fifth isn't read", x.text(), -1);
        due.is("the tape stays", x.about(8), 4);
        due.is("no fault", x.fault(0), 0);
        due.is("no place", x.fault(1), -1);
        due.is("others", x.fault(2), -1);
        due.is("others", x.fault(-1), -1);
        due.is("by 4", x.by(4), false);
        due.is("by -2", x.by(-2), false);
        due.is("THE TEXT stays", x.about(5), 3);
        due.is("by none", x.by(-1), true);
        due.is("THE TEXT", x.about(5), -1);
        due.is("texts", x.about(4), 4);
    }

    /** A cell of 30 people in state 4 and no town, 20 ahead by hour 1 in summer, dark 15. */
    private static HourLines example() {
        HourLines x = new HourLines(2, 2);
        x.hour(10);
        x.hour(100);
        x.cell(2, 140, 30, 4, 365, false);
        x.summer(0, 11);
        return x;
    }

    private void works(String sum, int value) {
        HourLines x = example();
        due.is("[" + sum + "] is read", Tape.rule(x, "cost if " + sum + " = " + signed(value) + " ? 1 : 0 end;"), true);
        due.is("[" + sum + "] is " + value, x.pays(2, 1), 12);
    }

    private static String signed(int value) {
        if (value < 0) {
            return "- " + signed(-value);
        }
        return value > 9999 ? "(" + value / 1000 + " * 1000 + " + value % 1000 + ")" : Integer.toString(value);
    }

    private void sums() {
        works("off", 20);
        works("away", 20);
        works("people", 30);
        works("state", 4);
        works("town", 0);
        works("hour", 1);
        works("dark", 15);
        works("alone", 0);
        works("7 - 2 - 1", 4);
        works("100 / 10 / 5", 2);
        works("2 + 3 * 4", 14);
        works("(2 + 3) * 4", 20);
        works("7 / 2", 3);
        works("- 7 / 2", -3);
        works("7 / - 2", -3);
        works("7 / 0", 0);
        works("- 7 / 0", 0);
        works("0 / 7", 0);
        works("- 2 * - 3", 6);
        works("2 - - 3", 5);
        works("1000 * 1000", 1000000);
        works("1000 * 1001", 1000000);
        works("9999 * 9999 * 9999", 1000000);
        works("- 9999 * 9999", -1000000);
        works("1000 * 1000 + 1 - 1", 999999);
        works("0 - 1000 * 1000 - 5 + 5", -999995);
        works("1000 * 1000 * - 1000 * 1000", -1000000);
        works("if 1 = 1 ? 5 : 6 end", 5);
        works("if 1 = 2 ? 5 : 6 end", 6);
        works("if 1 = 2 ? 5 : if 1 < 2 ? 7 : 8 end end + 1", 8);
        works("if if 1 = 1 ? 2 : 3 end = 2 ? 4 : 5 end", 4);
    }

    private void asks(String either, boolean is) {
        HourLines x = example();
        due.is("[" + either + "] is read", Tape.rule(x, "cost if " + either + " ? 1 : 2 end;"), true);
        due.is("[" + either + "]", x.pays(2, 1), is ? 12 : 24);
    }

    private void conditions() {
        String[] signs = {"<", "<=", ">", ">=", "=", "#"};
        boolean[][] is = {{true, false, false}, {true, true, false}, {false, false, true}, {false, true, true},
            {false, true, false}, {true, false, true}};
        for (int i = 0; i < signs.length; i++) {
            for (int k = 1; k <= 3; k++) {
                asks(k + " " + signs[i] + " 2", is[i][k - 1]);
            }
        }
        String[] so = {"1 < 2", "1 <= 2", "2 > 1", "2 >= 1", "2 = 2", "1 # 2", "not 1 = 2", "not not 1 = 1"};
        for (String one : so) {
            for (String other : so) {
                asks(one + " and " + other, true);
                asks(one + " or " + other, true);
                asks("not " + one + " or not " + other, false);
            }
        }
        asks("1 = 1 or 1 = 2 and 1 = 2", true);
        asks("1 = 2 and 1 = 2 or 1 = 1", true);
        asks("1 = 2 and 1 = 1 or 1 = 2", false);
        asks("1 = 2 or 1 = 1 and 1 = 1", true);
        asks("not 1 = 2 and 1 = 2", false);
        asks("not 1 = 1 or 1 = 1", true);
        asks("not not 1 = 1", true);
        asks("not 1 = 1", false);
        asks("1 + 1 = 4 / 2", true);
    }

    private void pays() {
        HourLines x = new HourLines(2, 2);
        x.hour(10);
        x.hour(100);
        x.cell(1, 30, 7, 0, 480, true);
        due.is("without a text", x.pays(1, 0), 20 * 7 * 12);
        due.is("by the other", x.pays(1, 1), 70 * 7 * 12);
        x.summer(11, 0);
        due.is("with a summer", x.pays(1, 0), (20 * 10 + 40 * 2) * 7);
        x.cell(3, 0, 999, 0, 480, false);
        x.summer(0, 11);
        due.is("as much as it is", x.pays(3, 1), 160 * 999 * 12);
        Tape.rule(x, "grow 1; stay 1 = 1;");
        due.is("without cost", x.pays(3, 1), 160 * 999 * 12);
        Tape.rule(x, "cost 9999 * 9999;");
        due.is("9999 at most", x.pays(3, 1), 9999 * 12);
        Tape.rule(x, "cost 0 - 5 * month;");
        due.is("0 at least", x.pays(3, 1), 0);
        Tape.rule(x, "cost month * 100 + town * 10 + hour;");
        due.is("all months together", x.pays(1, 1), 66 * 100 + 12 * 10 + 12);
        x.by(-1);
        due.is("none again", x.pays(3, 1), 160 * 999 * 12);
        due.is("a wrong cell", x.pays(4, 0), -1);
        due.is("a wrong cell", x.pays(-1, 0), -1);
        due.is("a wrong hour", x.pays(0, 2), -1);
        due.is("a wrong hour", x.pays(0, -1), -1);
    }

    private void paysAnew() {
        HourLines x = new HourLines(2, 2);
        x.hour(0);
        Tape.rule(x, "cost dark + alone * 1000;");
        x.cell(0, 0, 0, 0, 360, false);
        due.is("dark 0", x.pays(0, 0), 0);
        x.rise(5, 363);
        due.is("behind rise", x.pays(0, 0), 3);
        x.cell(0, 0, 0, 0, 359, false);
        due.is("behind cell", x.pays(0, 0), 4 + 11);
        x.summer(0, 0);
        due.is("behind summer", x.pays(0, 0), 4 + 11 + 60);
        x.hour(100);
        due.is("the new hour", x.pays(0, 1), 12 * 101 + 3 + 60);
        x.tie(0, 1, 5);
        x.part(0, 1);
        due.is("alone is 0 in cost", x.pays(0, 1), 12 * 101 + 3 + 60);
        x.back();
        x.hour(7);
        due.is("behind back", x.pays(0, 0), 0);
    }

    private void offs() {
        HourLines x = new HourLines(2, 2);
        x.hour(0);
        x.cell(0, 300, 0, 0, 900, false);
        due.is("off", x.off(0, 0, 0, 0), -300);
        due.is("dark", x.off(0, 0, 0, 1), 0);
        int[][] wrong = {{-1, 0, 0, 0}, {4, 0, 0, 0}, {0, -1, 0, 0}, {0, 1, 0, 0}, {0, 0, -1, 0}, {0, 0, 12, 0},
            {0, 0, 0, -1}, {0, 0, 0, 2}, {MIN, MAX, MIN, MAX}};
        for (int[] w : wrong) {
            due.is("a wrong off", x.off(w[0], w[1], w[2], w[3]), -100000);
        }
    }

    public static void main(String[] args) {
        TextTest test = new TextTest();
        test.tape();
        test.faults();
        test.depths();
        test.longest();
        test.four();
        test.sums();
        test.conditions();
        test.pays();
        test.paysAnew();
        test.offs();
        test.due.end();
    }
}
