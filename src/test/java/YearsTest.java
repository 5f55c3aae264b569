/** Promise 29: years. */
public final class YearsTest {
    private final Due due = new Due();

    private static HourLines land(String text) {
        HourLines x = new HourLines(2, 2);
        x.hour(0);
        x.hour(60);
        x.cell(0, 0, 50, 0, 480, false);
        x.cell(1, 60, 199, 0, 480, true);
        x.cell(2, 30, 999, 0, 480, false);
        Tape.rule(x, text);
        return x;
    }

    private void growth() {
        HourLines x = land("cost 0;");
        due.is("without grow", x.years(60, false), 0);
        due.is("people stay", x.about(10), 50);
        x = land("grow 10;");
        due.is("moved", x.years(1, false), 0);
        due.is("cell 0", x.about(10), 55);
        due.is("cell 1, cut", x.about(11), 199 + 19);
        due.is("999 at most", x.about(12), 999);
        due.is("none of none", x.about(13), 0);
        x.years(2, false);
        due.is("two more", x.about(10), 66);
        x = land("grow - 7;");
        x.years(1, false);
        due.is("cut towards 0", x.about(10), 47);
        due.is("cut towards 0", x.about(11), 199 - 13);
        x = land("grow 5000;");
        x.years(1, false);
        due.is("100 at most", x.about(10), 100);
        due.is("100 at most", x.about(11), 398);
        x = land("grow 0 - people - 1;");
        x.years(1, false);
        due.is("as far as it goes", x.about(10), 50 - 25);
        x = land("grow - 5000;");
        x.years(1, false);
        due.is("-100 at least", x.about(10), 0);
        due.is("no people less than none", x.about(12), 0);
        x = land("grow if month = 0 and hour = 0 ? off + town + people / 50 : 50 end;");
        x.summer(0, 0);
        x.years(1, false);
        due.is("month 0, in summer", x.about(10), 50 + 50 * 61 / 100);
        due.is("off 0 then", x.about(11), 199 + 199 * 4 / 100);
        x.part(0, 1);
        x.years(1, false);
        due.is("hour 1", x.about(10), 80 + 40);
    }

    /** All by THE PARTING and PEOPLE as the year begins. */
    private void together() {
        HourLines x = land("grow alone;");
        x.tie(0, 1, 10);
        x.tie(0, 2, 20);
        x.tie(1, 2, 40);
        x.part(0, 1);
        x.years(1, false);
        due.is("cell 0", x.about(10), 65);
        due.is("cell 1", x.about(11), 218);
        due.is("pays by the new people", x.pays(0, 1), 65 * 60 * 12);
    }

    private void anew() {
        HourLines x = land("grow 1;");
        x.part(0, 1);
        x.part(3, 1);
        due.is("moved", x.years(1, true), 3);
        int[] p = {0, 1, 0, 0};
        for (int i = 0; i < 4; i++) {
            due.is("cell " + i, x.about(40 + i), p[i]);
        }
        due.is("no more", x.years(3, true), 0);
        x.keep(0, 1);
        due.is("kept", x.years(1, true), 1);
        due.is("it is", x.about(40), 1);
    }

    /** The growth of a year is by the parting of the one ahead, BEST by the people then. */
    private void inTurn() {
        HourLines x = new HourLines(2, 2);
        x.hour(0);
        x.hour(60);
        x.cell(0, 0, 10, 0, 480, false);
        x.cell(1, 60, 9, 0, 480, false);
        x.tie(0, 1, 99);
        x.tie(0, 1, 99);
        Tape.rule(x, "cost away * people / 10; grow if hour = 0 ? if town = 0 and off < 0 ? 50 : 0 end : - 100 end;");
        // Cell 1 grows by half in hour 0 until it weighs more than cell 0: then both go to hour 1, where all leave.
        due.is("the first year", x.years(1, true), 2);
        due.is("cell 1's people", x.about(11), 13);
        due.is("its hour", x.about(41), 1);
        due.is("the second year", x.years(1, true), 2);
        due.is("none are left", x.about(10) + x.about(11), 0);
        due.is("there and back", x.about(40) + x.about(41), 0);
        x.cell(0, 0, 10, 0, 480, false);
        x.cell(1, 60, 9, 0, 480, false);
        due.is("both years", x.years(2, true), 0);
        due.is("none are left", x.about(10) + x.about(11), 0);
    }

    private void bounds() {
        HourLines x = new HourLines(2, 2);
        due.is("without hours", x.years(1, false), -1);
        x = land("grow 10;");
        for (int n : new int[] {0, -1, 61, Integer.MIN_VALUE, Integer.MAX_VALUE}) {
            due.is("years(" + n + ")", x.years(n, true), -1);
        }
        due.is("people stay", x.about(10), 50);
        due.is("hours stay", x.about(41), 0);
        due.is("sixty", x.years(60, true), 1);
        due.is("people then", x.about(10), 999);
    }

    public static void main(String[] args) {
        YearsTest test = new YearsTest();
        test.growth();
        test.together();
        test.anew();
        test.inTurn();
        test.bounds();
        test.due.end();
    }
}
