import java.util.ArrayList;
import java.util.Arrays;
import java.util.List;

/**
 * The document again, written as plainly as can be and by other means than the class: BEST by
 * striking out cell after cell from tables, texts by Grammar. It takes its time.
 */
final class Model {
    private static final int NONE = -1;

    /** All that an image keeps. */
    private static final class State {
        int[] sun, people, state, begin, kept, parting;
        boolean[] town;
        List<int[]> ties = new ArrayList<>();
        List<Integer> hours = new ArrayList<>();
        int[] rise = new int[12];
        int from = NONE, to = NONE;
        List<Grammar> texts = new ArrayList<>();
        int ruling = NONE;
        List<List<int[]>> trains = new ArrayList<>();

        State copy() {
            State s = new State();
            s.sun = sun.clone();
            s.people = people.clone();
            s.state = state.clone();
            s.begin = begin.clone();
            s.kept = kept.clone();
            s.parting = parting.clone();
            s.town = town.clone();
            s.ties = new ArrayList<>(ties);
            s.hours = new ArrayList<>(hours);
            s.rise = rise.clone();
            s.from = from;
            s.to = to;
            s.texts = new ArrayList<>(texts);
            s.ruling = ruling;
            for (List<int[]> train : trains) {
                s.trains.add(new ArrayList<>(train));
            }
            return s;
        }
    }

    final int w, h, n;
    private State s = new State();
    private State image;
    private StringBuilder tape = new StringBuilder();
    private int fault = NONE, place = NONE;

    Model(int w, int h) {
        this.w = Math.max(2, Math.min(6, w));
        this.h = Math.max(2, Math.min(4, h));
        n = this.w * this.h;
        s.sun = new int[n];
        s.people = new int[n];
        s.state = new int[n];
        s.begin = new int[n];
        s.kept = new int[n];
        s.parting = new int[n];
        s.town = new boolean[n];
        Arrays.fill(s.begin, 480);
        Arrays.fill(s.kept, NONE);
        Arrays.fill(s.rise, 360);
        for (int i = 0; i < 6; i++) {
            s.trains.add(new ArrayList<>());
        }
        image = s.copy();
    }

    private boolean isCell(int c) {
        return 0 <= c && c < n;
    }

    private boolean isHour(int k) {
        return 0 <= k && k < s.hours.size();
    }

    private boolean isMonth(int m) {
        return 0 <= m && m < 12;
    }

    private int hours() {
        return s.hours.size();
    }

    boolean cell(int c, int sun, int people, int state, int begin, boolean town) {
        if (!isCell(c) || sun < 0 || sun > 300 || people < 0 || people > 999 || state < 0 || state > 5
                || begin < 0 || begin > 900) {
            return false;
        }
        s.sun[c] = sun;
        s.people[c] = people;
        s.state[c] = state;
        s.begin[c] = begin;
        s.town[c] = town;
        return true;
    }

    int tie(int one, int other, int weight) {
        if (!isCell(one) || !isCell(other) || one == other || weight < 1 || weight > 99 || s.ties.size() == 40) {
            return NONE;
        }
        s.ties.add(new int[] {one, other, weight});
        return s.ties.size();
    }

    int hour(int offset) {
        if (offset < 0 || offset > 300 || hours() == 4) {
            return NONE;
        }
        if (hours() > 0 && s.hours.get(hours() - 1) >= offset) {
            return NONE;
        }
        s.hours.add(offset);
        return hours() - 1;
    }

    boolean rise(int month, int v) {
        if (!isMonth(month) || v < 0 || v > 720) {
            return false;
        }
        s.rise[month] = v;
        return true;
    }

    boolean summer(int a, int b) {
        if (a == NONE) {
            s.from = s.to = NONE;
            return true;
        }
        if (!isMonth(a) || !isMonth(b)) {
            return false;
        }
        s.from = a;
        s.to = b;
        return true;
    }

    boolean keep(int c, int k) {
        if (!isCell(c) || k != NONE && !isHour(k)) {
            return false;
        }
        s.kept[c] = k;
        return true;
    }

    boolean part(int c, int k) {
        if (!isCell(c) || !isHour(k)) {
            return false;
        }
        s.parting[c] = k;
        return true;
    }

    int feed(int a, int b, int c, int d, int e) {
        if (tape.length() > 280) {
            return NONE;
        }
        for (int v : new int[] {a, b, c, d, e}) {
            for (int i = 3; i >= 0; i--) {
                tape.append((char) (v >> 8 * i & 255));
            }
        }
        return tape.length();
    }

    int end(int to) {
        if (to < 0 || to > tape.length()) {
            return NONE;
        }
        tape.setLength(to);
        return to;
    }

    int text() {
        if (s.texts.size() == 4) {
            return NONE;
        }
        Grammar g = new Grammar(tape.toString());
        tape.setLength(0);
        fault = g.fault;
        place = g.place;
        if (fault != 0) {
            return NONE;
        }
        s.texts.add(g);
        return s.texts.size() - 1;
    }

    int fault(int what) {
        return what == 0 ? fault : what == 1 ? place : NONE;
    }

    boolean by(int text) {
        if (text < NONE || text >= s.texts.size()) {
            return false;
        }
        s.ruling = text;
        return true;
    }

    private boolean inSummer(int month, int from, int to) {
        if (from == NONE) {
            return false;
        }
        for (int m = from; ; m = (m + 1) % 12) {
            if (m == month) {
                return true;
            }
            if (m == to) {
                return false;
            }
        }
    }

    private int offIn(int c, int k, int month, int from, int to) {
        return s.hours.get(k) - s.sun[c] + (inSummer(month, from, to) ? 60 : 0);
    }

    private int darkIn(int c, int k, int month, int from, int to) {
        return Math.max(0, s.rise[month] - (s.begin[c] - offIn(c, k, month, from, to)));
    }

    int off(int c, int k, int month, int what) {
        if (!isCell(c) || !isHour(k) || !isMonth(month) || what != 0 && what != 1) {
            return -100000;
        }
        return what == 0 ? offIn(c, k, month, s.from, s.to) : darkIn(c, k, month, s.from, s.to);
    }

    private boolean has(String clause) {
        return s.ruling != NONE && s.texts.get(s.ruling).has(clause);
    }

    private int ask(String clause, int c, int k, int month, int from, int to, int alone) {
        int off = offIn(c, k, month, from, to);
        return s.texts.get(s.ruling).work(clause, name -> {
            switch (name) {
                case "off": return off;
                case "away": return Math.abs(off);
                case "people": return s.people[c];
                case "state": return s.state[c];
                case "town": return s.town[c] ? 1 : 0;
                case "hour": return k;
                case "month": return month;
                case "dark": return darkIn(c, k, month, from, to);
                case "alone": return alone;
                default: throw new IllegalStateException(name);
            }
        });
    }

    private int paysIn(int c, int k, int from, int to) {
        int sum = 0;
        for (int m = 0; m < 12; m++) {
            if (has("cost")) {
                sum += Math.max(0, Math.min(9999, ask("cost", c, k, m, from, to, 0)));
            } else {
                sum += Math.abs(offIn(c, k, m, from, to)) * s.people[c];
            }
        }
        return sum;
    }

    int pays(int c, int k) {
        return isCell(c) && isHour(k) ? paysIn(c, k, s.from, s.to) : NONE;
    }

    private int apart(int one, int other) {
        return Math.abs(s.hours.get(one) - s.hours.get(other));
    }

    private int cellsPay(int[] p, int from, int to) {
        int sum = 0;
        for (int c = 0; c < n; c++) {
            sum += paysIn(c, p[c], from, to);
        }
        return sum;
    }

    private int tiesPay(int[] p) {
        int sum = 0;
        for (int[] t : s.ties) {
            sum += t[2] * apart(p[t[0]], p[t[1]]);
        }
        return sum;
    }

    private int price(int[] p) {
        return cellsPay(p, s.from, s.to) + tiesPay(p);
    }

    private boolean[] pieceOf(int cell) {
        boolean[] in = new boolean[n];
        List<Integer> open = new ArrayList<>(List.of(cell));
        in[cell] = true;
        while (!open.isEmpty()) {
            int c = open.remove(open.size() - 1);
            int x = c % w;
            int y = c / w;
            int[][] beside = {{x - 1, y}, {x + 1, y}, {x, y - 1}, {x, y + 1}};
            for (int[] b : beside) {
                if (b[0] >= 0 && b[0] < w && b[1] >= 0 && b[1] < h) {
                    int d = b[0] + w * b[1];
                    if (!in[d] && s.parting[d] == s.parting[cell]) {
                        in[d] = true;
                        open.add(d);
                    }
                }
            }
        }
        return in;
    }

    private int pieces() {
        boolean[] seen = new boolean[n];
        int count = 0;
        for (int c = 0; c < n; c++) {
            if (!seen[c]) {
                count++;
                boolean[] in = pieceOf(c);
                for (int d = 0; d < n; d++) {
                    seen[d] |= in[d];
                }
            }
        }
        return count;
    }

    private int divided() {
        int count = 0;
        for (int st = 0; st < 6; st++) {
            int bits = 0;
            for (int c = 0; c < n; c++) {
                if (s.state[c] == st) {
                    bits |= 1 << s.parting[c];
                }
            }
            if (Integer.bitCount(bits) > 1) {
                count++;
            }
        }
        return count;
    }

    private int judged() {
        for (int c = 0; c < n; c++) {
            if (s.kept[c] != NONE && s.kept[c] != s.parting[c]) {
                return c;
            }
            int lowest = 0;
            while (s.parting[lowest] != s.parting[c]) {
                lowest++;
            }
            if (!pieceOf(lowest)[c]) {
                return c;
            }
        }
        return NONE;
    }

    int judge(int what) {
        if (hours() == 0) {
            return NONE;
        }
        switch (what) {
            case 0: return price(s.parting);
            case 1: return cellsPay(s.parting, s.from, s.to);
            case 2: return tiesPay(s.parting);
            case 3: return pieces();
            case 4: return divided();
            case 5: return judged();
            default: return NONE;
        }
    }

    /** The cell's cost table for Tables, with the group it is of as its only variable. */
    private long least(int set, boolean whole, int cell, int onlyHour, int notHour) {
        int groups = whole ? 6 : n;
        Tables tables = new Tables(groups, hours());
        for (int c = 0; c < n; c++) {
            long[] pays = new long[hours()];
            for (int k = 0; k < hours(); k++) {
                boolean barred = (set >> k & 1) == 0 || s.kept[c] != NONE && s.kept[c] != k
                        || c == cell && (onlyHour != NONE && k != onlyHour || k == notHour);
                pays[k] = barred ? Tables.NEVER : table[c][k];
            }
            tables.add(whole ? s.state[c] : c, pays);
        }
        for (int[] t : s.ties) {
            int a = whole ? s.state[t[0]] : t[0];
            int b = whole ? s.state[t[1]] : t[1];
            if (a != b) {
                long[][] pays = new long[hours()][hours()];
                for (int i = 0; i < hours(); i++) {
                    for (int k = 0; k < hours(); k++) {
                        pays[i][k] = (long) t[2] * apart(i, k);
                    }
                }
                tables.add(a, b, pays);
            }
        }
        return tables.least();
    }

    private int[][] table;

    private void weigh() {
        table = new int[n][hours()];
        for (int c = 0; c < n; c++) {
            for (int k = 0; k < hours(); k++) {
                table[c][k] = pays(c, k);
            }
        }
    }

    private int leastPrice(int set, boolean whole) {
        long least = least(set, whole, NONE, NONE, NONE);
        return least >= Tables.NEVER ? NONE : (int) least;
    }

    /** The lowest hour that the cell has in any parting of least price. */
    private int lowestHour(int set, boolean whole, int cell, int price) {
        for (int k = 0; k < hours(); k++) {
            if (least(set, whole, cell, k, NONE) == price) {
                return k;
            }
        }
        throw new IllegalStateException();
    }

    int best(int set, boolean whole, int cell) {
        if (set < 1 || set >= 1 << hours() || cell != NONE && !isCell(cell)) {
            return NONE;
        }
        weigh();
        int price = leastPrice(set, whole);
        return price == NONE || cell == NONE ? price : lowestHour(set, whole, cell, price);
    }

    private int all() {
        return (1 << hours()) - 1;
    }

    int held(int cell, boolean whole) {
        if (!isCell(cell) || hours() == 0) {
            return NONE;
        }
        weigh();
        int price = leastPrice(all(), whole);
        if (price == NONE) {
            return NONE;
        }
        int k = lowestHour(all(), whole, cell, price);
        long other = least(all(), whole, cell, NONE, k);
        return other >= Tables.NEVER ? NONE : (int) other - price;
    }

    private int[] bestParting(int set, boolean whole, int price) {
        int[] p = new int[n];
        for (int c = 0; c < n; c++) {
            p[c] = lowestHour(set, whole, c, price);
        }
        return p;
    }

    int cut(boolean whole, int i) {
        if (hours() == 0 || i < NONE) {
            return NONE;
        }
        weigh();
        int price = leastPrice(all(), whole);
        if (price == NONE) {
            return NONE;
        }
        int[] p = bestParting(all(), whole, price);
        List<Integer> cut = new ArrayList<>();
        for (int t = 0; t < s.ties.size(); t++) {
            if (p[s.ties.get(t)[0]] != p[s.ties.get(t)[1]]) {
                cut.add(t);
            }
        }
        return i == NONE ? cut.size() : i < cut.size() ? cut.get(i) : NONE;
    }

    private int[] manyBy(int k, boolean whole) {
        int[] found = {NONE, NONE};
        for (int set = 1; set <= all(); set++) {
            if (Integer.bitCount(set) == k) {
                int price = leastPrice(set, whole);
                if (price != NONE && (found[1] == NONE || price < found[1])) {
                    found = new int[] {set, price};
                }
            }
        }
        return found;
    }

    int many(int k, boolean whole, int what) {
        if (k < 1 || k > hours() || what < 0 || what > 2) {
            return NONE;
        }
        weigh();
        int[] now = manyBy(k, whole);
        if (what < 2) {
            return now[what];
        }
        if (k < 2) {
            return NONE;
        }
        int[] fewer = manyBy(k - 1, whole);
        return now[1] == NONE || fewer[1] == NONE ? NONE : fewer[1] - now[1];
    }

    int one(int what) {
        if (hours() == 0 || what != 0 && what != 1) {
            return NONE;
        }
        int bestHour = NONE;
        int least = 0;
        for (int k = 0; k < hours(); k++) {
            int sum = 0;
            for (int c = 0; c < n; c++) {
                sum += pays(c, k);
            }
            if (bestHour == NONE || sum < least) {
                bestHour = k;
                least = sum;
            }
        }
        return what == 0 ? bestHour : least;
    }

    int loses(int k, int what) {
        if (!isHour(k) || what != 0 && what != 1) {
            return NONE;
        }
        int people = 0;
        int count = 0;
        for (int c = 0; c < n; c++) {
            boolean less = false;
            for (int o = 0; o < hours(); o++) {
                less |= pays(c, o) < pays(c, k);
            }
            if (less) {
                people += s.people[c];
                count++;
            }
        }
        return what == 0 ? people : count;
    }

    private int alone(int c, int[] p) {
        int sum = 0;
        for (int[] t : s.ties) {
            if ((t[0] == c || t[1] == c) && p[t[0]] != p[t[1]]) {
                sum += t[2];
            }
        }
        return sum;
    }

    int free(int what) {
        boolean known = what == 0 || what == 1 || what >= 10 && what - 10 < n;
        if (hours() == 0 || !known) {
            return NONE;
        }
        weigh();
        int[] p = s.parting.clone();
        int changes = 0;
        int rounds = NONE;
        for (int r = 1; r <= 20; r++) {
            int before = changes;
            for (int c = 0; c < n; c++) {
                if (s.kept[c] != NONE
                        || has("stay") && ask("stay", c, p[c], 0, s.from, s.to, alone(c, p)) != 0) {
                    continue;
                }
                int[] pay = new int[hours()];
                int least = Integer.MAX_VALUE;
                for (int k = 0; k < hours(); k++) {
                    int[] q = p.clone();
                    q[c] = k;
                    pay[k] = table[c][k];
                    for (int[] t : s.ties) {
                        if (t[0] == c || t[1] == c) {
                            pay[k] += t[2] * apart(q[t[0]], q[t[1]]);
                        }
                    }
                    least = Math.min(least, pay[k]);
                }
                if (pay[p[c]] != least) {
                    int k = 0;
                    while (pay[k] != least) {
                        k++;
                    }
                    p[c] = k;
                    changes++;
                }
            }
            if (before == changes) {
                rounds = r;
                break;
            }
        }
        return what == 0 ? rounds : what == 1 ? changes : p[what - 10];
    }

    int pull(int town, int y, int bits) {
        if (hours() == 0 || !isCell(town) || !s.town[town] || y < 0 || y >= h || bits < 0 || bits >= 1 << w) {
            return -1000000000;
        }
        int[] p = s.parting.clone();
        for (int x = 0; x < w; x++) {
            if ((bits & 1 << x) != 0) {
                p[x + w * y] = s.parting[town];
            }
        }
        return price(s.parting) - price(p);
    }

    int when(int what) {
        if (hours() == 0 || what < 0 || what > 2) {
            return -2;
        }
        int[] found = {NONE, NONE, cellsPay(s.parting, NONE, NONE) + tiesPay(s.parting)};
        for (int a = 0; a < 12; a++) {
            for (int b = a; b < 12; b++) {
                int price = cellsPay(s.parting, a, b) + tiesPay(s.parting);
                if (price < found[2]) {
                    found = new int[] {a, b, price};
                }
            }
        }
        return found[what];
    }

    int stop(int train, int c, int minutes) {
        if (train < 0 || train > 5 || !isCell(c) || minutes < 1 || minutes > 999
                || s.trains.get(train).size() == 12) {
            return NONE;
        }
        s.trains.get(train).add(new int[] {c, minutes});
        return s.trains.get(train).size();
    }

    int clock(int train, int k) {
        if (hours() == 0 || train < 0 || train > 5 || k < 0 || k >= s.trains.get(train).size()) {
            return -100000;
        }
        List<int[]> stops = s.trains.get(train);
        int time = stops.get(0)[1];
        for (int i = 1; i <= k; i++) {
            int there = s.hours.get(s.parting[stops.get(i)[0]]);
            int ahead = s.hours.get(s.parting[stops.get(i - 1)[0]]);
            time += stops.get(i)[1] + there - ahead;
        }
        return time;
    }

    int early(int train) {
        if (hours() == 0 || train < 0 || train > 5) {
            return NONE;
        }
        for (int k = 1; k < s.trains.get(train).size(); k++) {
            if (clock(train, k) < clock(train, k - 1)) {
                return k;
            }
        }
        return NONE;
    }

    int years(int count, boolean anew) {
        if (hours() == 0 || count < 1 || count > 60) {
            return NONE;
        }
        int[] before = s.parting.clone();
        for (int i = 0; i < count; i++) {
            int[] grown = new int[n];
            for (int c = 0; c < n; c++) {
                int grow = 0;
                if (has("grow")) {
                    grow = ask("grow", c, s.parting[c], 0, s.from, s.to, alone(c, s.parting));
                    grow = Math.max(-100, Math.min(100, grow));
                }
                grown[c] = Math.max(0, Math.min(999, s.people[c] + s.people[c] * grow / 100));
            }
            s.people = grown;
            if (anew) {
                weigh();
                int price = leastPrice(all(), false);
                if (price != NONE) {
                    s.parting = bestParting(all(), false, price);
                }
            }
        }
        int moved = 0;
        for (int c = 0; c < n; c++) {
            if (before[c] != s.parting[c]) {
                moved++;
            }
        }
        return moved;
    }

    int both(int cell) {
        if (hours() == 0 || !isCell(cell) || s.parting[cell] + 1 >= hours()) {
            return -1000000000;
        }
        int k = s.parting[cell];
        int then = Math.max(pays(cell, k), pays(cell, k + 1));
        for (int c = 0; c < n; c++) {
            if (c != cell) {
                then += pays(c, s.parting[c]);
            }
        }
        for (int[] t : s.ties) {
            if (t[0] != cell && t[1] != cell) {
                then += t[2] * apart(s.parting[t[0]], s.parting[t[1]]);
                continue;
            }
            int there = s.parting[t[0] == cell ? t[1] : t[0]];
            if (there != k && there != k + 1) {
                then += t[2] * Math.min(apart(there, k), apart(there, k + 1));
            }
        }
        return price(s.parting) - then;
    }

    int image() {
        image = s.copy();
        return hours();
    }

    int back() {
        s = image.copy();
        return hours();
    }

    int about(int what) {
        int[] plain = {w, h, hours(), s.ties.size(), s.texts.size(), s.ruling, s.from, s.to, tape.length()};
        if (what >= 0 && what < plain.length) {
            return plain[what];
        }
        if (what >= 10 && what < 10 + n) {
            return s.people[what - 10];
        }
        if (what >= 40 && what < 40 + n) {
            return s.parting[what - 40];
        }
        if (what >= 70 && what < 70 + n) {
            return s.kept[what - 70];
        }
        return -2;
    }

    int ties() {
        return s.ties.size();
    }
}
