/**
 * Where the hour changes: a land of cells, the hours told in it, and the partings that give every
 * cell one of them. What each method answers is told by the document (../shared/DOC.md), promise by
 * promise. All rows are made by the constructor and used again by every call, since all calls of a
 * run share one small room.
 */
public final class HourLines {
    public static final int NONE = -1;

    private static final int MIN_SIDE = 2;
    private static final int MAX_WIDTH = 6;
    private static final int MAX_HEIGHT = 4;
    private static final int MAX_OFFSET = 300;
    private static final int MAX_PEOPLE = 999;
    private static final int MAX_BEGIN = 900;
    private static final int MAX_RISE = 720;
    private static final int MAX_WEIGHT = 99;
    private static final int MAX_MINUTES = 999;
    private static final int MAX_YEARS = 60;
    private static final int STATES = 6;
    private static final int HOURS = 4;
    private static final int TIES = 40;
    private static final int MONTHS = 12;
    private static final int TRAINS = 6;
    private static final int STOPS = 12;
    private static final int TEXTS = 4;
    private static final int TAPE = 300;
    private static final int FED = 20;

    private static final int NO_MINUTES = -100000;
    private static final int NO_WORTH = -1000000000;
    private static final int NO_NUMBER = -2;

    private static final int PEOPLE_FROM = 10;
    private static final int HOUR_FROM = 40;
    private static final int KEPT_FROM = 70;

    private final int width;
    private final int height;
    private final int cells;
    private final Land land;
    private final Land picture;
    private final int[] tape;
    private int fed;
    private final Reader reader;
    private final Text[] texts;
    private final Worker worker;
    private final Purse purse;
    private final Pieces pieces;
    private final Parter parter;
    private final Drift drift;
    private final int[] trial;
    private final int[] summerMore;

    public HourLines(int w, int h) {
        width = bounded(w, MIN_SIDE, MAX_WIDTH);
        height = bounded(h, MIN_SIDE, MAX_HEIGHT);
        cells = width * height;
        land = new Land(cells);
        picture = new Land(cells);
        tape = new int[TAPE];
        reader = new Reader(tape);
        texts = new Text[TEXTS];
        for (int i = 0; i < TEXTS; i++) {
            texts[i] = new Text();
        }
        worker = new Worker(land, texts);
        purse = new Purse(land, worker);
        pieces = new Pieces(width, cells);
        parter = new Parter(land, purse);
        drift = new Drift(land, purse, worker);
        trial = new int[cells];
        summerMore = new int[MONTHS];
    }

    public boolean cell(int cell, int sun, int people, int state, int begin, boolean town) {
        if (!isCell(cell) || !within(sun, 0, MAX_OFFSET) || !within(people, 0, MAX_PEOPLE)
                || !within(state, 0, STATES - 1) || !within(begin, 0, MAX_BEGIN)) {
            return false;
        }
        land.sun[cell] = sun;
        land.people[cell] = people;
        land.state[cell] = state;
        land.begin[cell] = begin;
        land.town[cell] = town;
        purse.forget(cell);
        return true;
    }

    public int tie(int one, int other, int weight) {
        if (!isCell(one) || !isCell(other) || one == other || !within(weight, 1, MAX_WEIGHT)) {
            return NONE;
        }
        return land.ties.add(one, other, weight);
    }

    public int hour(int offset) {
        int lowest = land.hours == 0 ? 0 : land.offset[land.hours - 1] + 1;
        if (land.hours >= HOURS || !within(offset, lowest, MAX_OFFSET)) {
            return NONE;
        }
        land.offset[land.hours] = offset;
        land.hours++;
        purse.forgetAll();
        return land.hours - 1;
    }

    public boolean rise(int month, int v) {
        if (!isMonth(month) || !within(v, 0, MAX_RISE)) {
            return false;
        }
        land.rise[month] = v;
        purse.forgetAll();
        return true;
    }

    public boolean summer(int a, int b) {
        if (a != NONE && (!isMonth(a) || !isMonth(b))) {
            return false;
        }
        land.summerFrom = a;
        land.summerTo = a == NONE ? NONE : b;
        purse.forgetAll();
        return true;
    }

    public boolean keep(int cell, int hour) {
        if (!isCell(cell) || (hour != NONE && !isHour(hour))) {
            return false;
        }
        land.kept[cell] = hour;
        return true;
    }

    public boolean part(int cell, int hour) {
        if (!isCell(cell) || !isHour(hour)) {
            return false;
        }
        land.parting[cell] = hour;
        return true;
    }

    public int feed(int a, int b, int c, int d, int e) {
        if (fed + FED > TAPE) {
            return NONE;
        }
        putBytes(a);
        putBytes(b);
        putBytes(c);
        putBytes(d);
        putBytes(e);
        return fed;
    }

    public int end(int n) {
        if (!within(n, 0, fed)) {
            return NONE;
        }
        fed = n;
        return n;
    }

    public int text() {
        if (land.texts >= TEXTS) {
            return NONE;
        }
        reader.read(fed);
        fed = 0;
        if (reader.fault != 0) {
            return NONE;
        }
        texts[land.texts].copyFrom(reader.draft);
        land.texts++;
        return land.texts - 1;
    }

    public int fault(int what) {
        if (what == 0) {
            return reader.fault;
        }
        return what == 1 ? reader.place : NONE;
    }

    public boolean by(int text) {
        if (!within(text, NONE, land.texts - 1)) {
            return false;
        }
        land.ruling = text;
        purse.forgetAll();
        return true;
    }

    public int off(int cell, int hour, int month, int what) {
        if (!isCell(cell) || !isHour(hour) || !isMonth(month) || !within(what, 0, 1)) {
            return NO_MINUTES;
        }
        int minutes = land.offOf(cell, hour, land.inSummer(month));
        return what == 0 ? minutes : land.darkOf(cell, month, minutes);
    }

    public int pays(int cell, int hour) {
        if (!isCell(cell) || !isHour(hour)) {
            return NONE;
        }
        purse.refresh();
        return purse.payOf(cell, hour);
    }

    public int judge(int what) {
        if (land.hours == 0 || !within(what, 0, 5)) {
            return NONE;
        }
        purse.refresh();
        pieces.trace(land.parting);
        switch (what) {
            case 0:
                return priceOf(land.parting);
            case 1:
                return purse.payOfAll(land.parting);
            case 2:
                return land.ties.payBy(land.parting, land.offset);
            case 3:
                return pieces.count();
            case 4:
                return land.dividedStates();
            default:
                return pieces.firstAstray(land.parting, land.kept);
        }
    }

    public int best(int hours, boolean whole, int cell) {
        if (!within(hours, 1, allHours()) || (cell != NONE && !isCell(cell))) {
            return NONE;
        }
        purse.refresh();
        int price = parter.solve(hours, whole, NONE, NONE);
        if (price == NONE || cell == NONE) {
            return price;
        }
        return parter.hourOf[cell];
    }

    public int held(int cell, boolean whole) {
        if (!isCell(cell) || land.hours == 0) {
            return NONE;
        }
        purse.refresh();
        int price = parter.solve(allHours(), whole, NONE, NONE);
        if (price == NONE) {
            return NONE;
        }
        int other = parter.solve(allHours(), whole, cell, parter.hourOf[cell]);
        return other == NONE ? NONE : other - price;
    }

    public int cut(boolean whole, int i) {
        if (land.hours == 0 || i < NONE || i >= land.ties.count) {
            return NONE;
        }
        purse.refresh();
        if (parter.solve(allHours(), whole, NONE, NONE) == NONE) {
            return NONE;
        }
        return i == NONE ? land.ties.countCut(parter.hourOf) : land.ties.cutTie(parter.hourOf, i);
    }

    public int many(int k, boolean whole, int what) {
        if (!within(k, 1, land.hours) || !within(what, 0, 2) || (what == 2 && k == 1)) {
            return NONE;
        }
        purse.refresh();
        int set = parter.leastSet(k, whole);
        if (set == NONE || what == 0) {
            return set;
        }
        int price = parter.leastPrice;
        if (what == 1) {
            return price;
        }
        return parter.leastSet(k - 1, whole) == NONE ? NONE : parter.leastPrice - price;
    }

    public int one(int what) {
        if (land.hours == 0 || !within(what, 0, 1)) {
            return NONE;
        }
        purse.refresh();
        int chosen = 0;
        for (int i = 1; i < land.hours; i++) {
            if (purse.payOfAllBy(i) < purse.payOfAllBy(chosen)) {
                chosen = i;
            }
        }
        return what == 0 ? chosen : purse.payOfAllBy(chosen);
    }

    public int loses(int hour, int what) {
        if (!isHour(hour) || !within(what, 0, 1)) {
            return NONE;
        }
        purse.refresh();
        int sum = 0;
        for (int i = 0; i < cells; i++) {
            if (purse.leastPayOf(i) < purse.payOf(i, hour)) {
                sum += what == 0 ? land.people[i] : 1;
            }
        }
        return sum;
    }

    public int free(int what) {
        boolean ofCell = isCell(what - PEOPLE_FROM);
        if (land.hours == 0 || !(within(what, 0, 1) || ofCell)) {
            return NONE;
        }
        purse.refresh();
        drift.run();
        if (ofCell) {
            return drift.hourOf[what - PEOPLE_FROM];
        }
        return what == 0 ? drift.rounds : drift.changes;
    }

    public int pull(int town, int y, int bits) {
        if (land.hours == 0 || !isCell(town) || !land.town[town] || !within(y, 0, height - 1)
                || !within(bits, 0, (1 << width) - 1)) {
            return NO_WORTH;
        }
        purse.refresh();
        System.arraycopy(land.parting, 0, trial, 0, cells);
        for (int x = 0; x < width; x++) {
            if ((bits >> x & 1) != 0) {
                trial[x + width * y] = land.parting[town];
            }
        }
        return priceOf(land.parting) - priceOf(trial);
    }

    public int when(int what) {
        if (land.hours == 0 || !within(what, 0, 2)) {
            return NO_NUMBER;
        }
        int plain = land.ties.payBy(land.parting, land.offset);
        for (int i = 0; i < MONTHS; i++) {
            int bare = purse.payOfMonth(i, false);
            plain += bare;
            summerMore[i] = purse.payOfMonth(i, true) - bare;
        }
        int from = NONE;
        int to = NONE;
        int least = 0;
        for (int a = 0; a < MONTHS; a++) {
            int sum = 0;
            for (int b = a; b < MONTHS; b++) {
                sum += summerMore[b];
                if (sum < least) {
                    least = sum;
                    from = a;
                    to = b;
                }
            }
        }
        if (what == 2) {
            return plain + least;
        }
        return what == 0 ? from : to;
    }

    public int stop(int train, int cell, int minutes) {
        if (!within(train, 0, TRAINS - 1) || !isCell(cell) || !within(minutes, 1, MAX_MINUTES)) {
            return NONE;
        }
        return land.trains.add(train, cell, minutes);
    }

    public int clock(int train, int k) {
        if (land.hours == 0 || !within(train, 0, TRAINS - 1)
                || !within(k, 0, land.trains.count[train] - 1)) {
            return NO_MINUTES;
        }
        return land.trains.clockAt(train, k, land.parting, land.offset);
    }

    public int early(int train) {
        if (land.hours == 0 || !within(train, 0, TRAINS - 1)) {
            return NONE;
        }
        return land.trains.firstEarly(train, land.parting, land.offset);
    }

    public int years(int n, boolean anew) {
        if (land.hours == 0 || !within(n, 1, MAX_YEARS)) {
            return NONE;
        }
        System.arraycopy(land.parting, 0, trial, 0, cells);
        for (int i = 0; i < n; i++) {
            growAll();
            if (anew) {
                purse.refresh();
                partAnew();
            }
        }
        int moved = 0;
        for (int i = 0; i < cells; i++) {
            if (land.parting[i] != trial[i]) {
                moved++;
            }
        }
        return moved;
    }

    public int both(int cell) {
        if (land.hours == 0 || !isCell(cell) || land.parting[cell] + 1 >= land.hours) {
            return NO_WORTH;
        }
        purse.refresh();
        int lower = land.parting[cell];
        int now = purse.payOf(cell, lower);
        int then = Math.max(now, purse.payOf(cell, lower + 1));
        return now - then + land.ties.sparedByBoth(cell, land.parting, land.offset);
    }

    public int image() {
        picture.copyFrom(land);
        return land.hours;
    }

    public int back() {
        land.copyFrom(picture);
        purse.forgetAll();
        return land.hours;
    }

    public int about(int what) {
        switch (what) {
            case 0:
                return width;
            case 1:
                return height;
            case 2:
                return land.hours;
            case 3:
                return land.ties.count;
            case 4:
                return land.texts;
            case 5:
                return land.ruling;
            case 6:
                return land.summerFrom;
            case 7:
                return land.summerTo;
            case 8:
                return fed;
            default:
                return aboutCell(what);
        }
    }

    private int aboutCell(int what) {
        if (isCell(what - PEOPLE_FROM)) {
            return land.people[what - PEOPLE_FROM];
        }
        if (isCell(what - HOUR_FROM)) {
            return land.parting[what - HOUR_FROM];
        }
        return isCell(what - KEPT_FROM) ? land.kept[what - KEPT_FROM] : NO_NUMBER;
    }

    private boolean isCell(int number) {
        return within(number, 0, cells - 1);
    }

    private boolean isHour(int number) {
        return within(number, 0, land.hours - 1);
    }

    private static boolean isMonth(int number) {
        return within(number, 0, MONTHS - 1);
    }

    private int allHours() {
        return (1 << land.hours) - 1;
    }

    private int priceOf(int[] hourOf) {
        return purse.payOfAll(hourOf) + land.ties.payBy(hourOf, land.offset);
    }

    private void putBytes(int four) {
        for (int shift = 24; shift >= 0 && fed < TAPE; shift -= 8) {
            tape[fed] = four >>> shift & 255;
            fed++;
        }
    }

    /** One cell behind the other is fine here: what a cell grows by asks for no other's people. */
    private void growAll() {
        for (int i = 0; i < cells; i++) {
            int people = land.people[i];
            int grown = people + people * growthOf(i) / 100;
            land.people[i] = bounded(grown, 0, MAX_PEOPLE);
            if (land.people[i] != people) {
                purse.forget(i);
            }
        }
    }

    private int growthOf(int cell) {
        if (!worker.has(Text.GROW)) {
            return 0;
        }
        int alone = land.ties.aloneAt(cell, land.parting);
        int growth = worker.ask(Text.GROW, cell, land.parting[cell], 0, land.inSummer(0), alone);
        return bounded(growth, -100, 100);
    }

    private void partAnew() {
        if (parter.solve(allHours(), false, NONE, NONE) != NONE) {
            System.arraycopy(parter.hourOf, 0, land.parting, 0, cells);
        }
    }

    private static boolean within(int value, int least, int most) {
        return value >= least && value <= most;
    }

    private static int bounded(int value, int least, int most) {
        if (value < least) {
            return least;
        }
        return value > most ? most : value;
    }

    /** All that an image keeps; of the texts just their number, since a told text never changes. */
    private static final class Land {
        private final int[] sun;
        private final int[] people;
        private final int[] state;
        private final int[] begin;
        private final boolean[] town;
        private final int[] kept;
        private final int[] parting;
        private final int[] offset;
        private int hours;
        private final int[] rise;
        private int summerFrom;
        private int summerTo;
        private int texts;
        private int ruling;
        private final Ties ties;
        private final Trains trains;

        private Land(int cells) {
            sun = new int[cells];
            people = new int[cells];
            state = new int[cells];
            begin = new int[cells];
            town = new boolean[cells];
            kept = new int[cells];
            parting = new int[cells];
            offset = new int[HOURS];
            rise = new int[MONTHS];
            ties = new Ties();
            trains = new Trains();
            for (int i = 0; i < cells; i++) {
                begin[i] = 480;
                kept[i] = NONE;
            }
            for (int i = 0; i < MONTHS; i++) {
                rise[i] = 360;
            }
            summerFrom = NONE;
            summerTo = NONE;
            ruling = NONE;
        }

        private void copyFrom(Land other) {
            int cells = sun.length;
            System.arraycopy(other.sun, 0, sun, 0, cells);
            System.arraycopy(other.people, 0, people, 0, cells);
            System.arraycopy(other.state, 0, state, 0, cells);
            System.arraycopy(other.begin, 0, begin, 0, cells);
            System.arraycopy(other.town, 0, town, 0, cells);
            System.arraycopy(other.kept, 0, kept, 0, cells);
            System.arraycopy(other.parting, 0, parting, 0, cells);
            System.arraycopy(other.offset, 0, offset, 0, HOURS);
            hours = other.hours;
            System.arraycopy(other.rise, 0, rise, 0, MONTHS);
            summerFrom = other.summerFrom;
            summerTo = other.summerTo;
            texts = other.texts;
            ruling = other.ruling;
            ties.copyFrom(other.ties);
            trains.copyFrom(other.trains);
        }

        private boolean inSummer(int month) {
            if (summerFrom == NONE) {
                return false;
            }
            if (summerFrom <= summerTo) {
                return within(month, summerFrom, summerTo);
            }
            return month >= summerFrom || month <= summerTo;
        }

        private int offOf(int cell, int hour, boolean summery) {
            return offset[hour] - sun[cell] + (summery ? 60 : 0);
        }

        private int darkOf(int cell, int month, int minutes) {
            return Math.max(0, rise[month] - (begin[cell] - minutes));
        }

        private int dividedStates() {
            int divided = 0;
            for (int i = 0; i < STATES; i++) {
                if (isDivided(i)) {
                    divided++;
                }
            }
            return divided;
        }

        private boolean isDivided(int number) {
            int hour = NONE;
            for (int i = 0; i < state.length; i++) {
                if (state[i] == number && hour != NONE && parting[i] != hour) {
                    return true;
                }
                if (state[i] == number) {
                    hour = parting[i];
                }
            }
            return false;
        }
    }

    private static final class Ties {
        private final int[] one = new int[TIES];
        private final int[] other = new int[TIES];
        private final int[] weight = new int[TIES];
        private int count;

        private int add(int from, int to, int heavy) {
            if (count >= TIES) {
                return NONE;
            }
            one[count] = from;
            other[count] = to;
            weight[count] = heavy;
            count++;
            return count;
        }

        private void copyFrom(Ties from) {
            System.arraycopy(from.one, 0, one, 0, TIES);
            System.arraycopy(from.other, 0, other, 0, TIES);
            System.arraycopy(from.weight, 0, weight, 0, TIES);
            count = from.count;
        }

        private int payBy(int[] hourOf, int[] offset) {
            int sum = 0;
            for (int i = 0; i < count; i++) {
                sum += weight[i] * Math.abs(offset[hourOf[one[i]]] - offset[hourOf[other[i]]]);
            }
            return sum;
        }

        /** The cell at the other side of a tie, NONE if the tie is not of this cell. */
        private int across(int tie, int cell) {
            if (one[tie] == cell) {
                return other[tie];
            }
            return other[tie] == cell ? one[tie] : NONE;
        }

        private int payOfCell(int cell, int hour, int[] hourOf, int[] offset) {
            int sum = 0;
            for (int i = 0; i < count; i++) {
                int there = across(i, cell);
                if (there != NONE) {
                    sum += weight[i] * Math.abs(offset[hour] - offset[hourOf[there]]);
                }
            }
            return sum;
        }

        private int aloneAt(int cell, int[] hourOf) {
            int sum = 0;
            for (int i = 0; i < count; i++) {
                int there = across(i, cell);
                if (there != NONE && hourOf[there] != hourOf[cell]) {
                    sum += weight[i];
                }
            }
            return sum;
        }

        /**
         * What the cell's ties pay less once it keeps its hour and the next. A tie to either of
         * these is nearest to itself at 0, so the nearer distance serves for it as well.
         */
        private int sparedByBoth(int cell, int[] hourOf, int[] offset) {
            int lower = hourOf[cell];
            if (lower + 1 >= offset.length) {
                return 0;
            }
            int sum = 0;
            for (int i = 0; i < count; i++) {
                int there = across(i, cell);
                if (there != NONE) {
                    int now = Math.abs(offset[lower] - offset[hourOf[there]]);
                    int next = Math.abs(offset[lower + 1] - offset[hourOf[there]]);
                    sum += weight[i] * (now - Math.min(now, next));
                }
            }
            return sum;
        }

        private boolean isCut(int tie, int[] hourOf) {
            return hourOf[one[tie]] != hourOf[other[tie]];
        }

        private int countCut(int[] hourOf) {
            int sum = 0;
            for (int i = 0; i < count; i++) {
                if (isCut(i, hourOf)) {
                    sum++;
                }
            }
            return sum;
        }

        private int cutTie(int[] hourOf, int number) {
            int ahead = 0;
            for (int i = 0; i < count; i++) {
                if (isCut(i, hourOf)) {
                    if (ahead == number) {
                        return i;
                    }
                    ahead++;
                }
            }
            return NONE;
        }
    }

    private static final class Trains {
        private final int[] cellAt = new int[TRAINS * STOPS];
        private final int[] minutes = new int[TRAINS * STOPS];
        private final int[] count = new int[TRAINS];

        private int add(int train, int cell, int time) {
            if (count[train] >= STOPS) {
                return NONE;
            }
            int place = train * STOPS + count[train];
            cellAt[place] = cell;
            minutes[place] = time;
            count[train]++;
            return count[train];
        }

        private void copyFrom(Trains from) {
            System.arraycopy(from.cellAt, 0, cellAt, 0, cellAt.length);
            System.arraycopy(from.minutes, 0, minutes, 0, minutes.length);
            System.arraycopy(from.count, 0, count, 0, count.length);
        }

        private int clockAt(int train, int k, int[] parting, int[] offset) {
            int first = train * STOPS;
            int time = offset[parting[cellAt[first + k]]] - offset[parting[cellAt[first]]];
            for (int i = 0; i <= k; i++) {
                time += minutes[first + i];
            }
            return time;
        }

        private int firstEarly(int train, int[] parting, int[] offset) {
            for (int i = 1; i < count[train]; i++) {
                int left = clockAt(train, i - 1, parting, offset);
                if (clockAt(train, i, parting, offset) < left) {
                    return i;
                }
            }
            return NONE;
        }
    }

    /** A text that has been read: its clauses one behind the other, worked with a stack. */
    private static final class Text {
        private static final int COST = 0;
        private static final int GROW = 1;
        private static final int STAY = 2;
        private static final int CLAUSES = 3;

        // Steps bear the number of the token that they stand for; these stand for none alone.
        private static final int NEGATE = 50;
        private static final int JUMP = 51;
        private static final int JUMP_UNLESS = 52;
        private static final int KIND_BITS = 6;

        private final int[] steps = new int[TAPE];
        private final int[] first = new int[CLAUSES];
        private final int[] behind = new int[CLAUSES];
        private int length;

        private void clear() {
            length = 0;
            for (int i = 0; i < CLAUSES; i++) {
                first[i] = NONE;
                behind[i] = NONE;
            }
        }

        private void copyFrom(Text other) {
            System.arraycopy(other.steps, 0, steps, 0, TAPE);
            System.arraycopy(other.first, 0, first, 0, CLAUSES);
            System.arraycopy(other.behind, 0, behind, 0, CLAUSES);
            length = other.length;
        }

        private boolean has(int clause) {
            return first[clause] != NONE;
        }

        private int kindAt(int step) {
            return steps[step] & (1 << KIND_BITS) - 1;
        }

        private int valueAt(int step) {
            return steps[step] >> KIND_BITS;
        }

        private int add(int kind, int value) {
            if (length >= TAPE) {
                return NONE;
            }
            steps[length] = kind | value << KIND_BITS;
            length++;
            return length - 1;
        }

        /** A jump is told ahead of what it leaps over, so its goal comes later. */
        private void aimHere(int jump) {
            if (within(jump, 0, length - 1)) {
                steps[jump] = kindAt(jump) | length << KIND_BITS;
            }
        }
    }

    /** Reads the tape token by token, from the left, and stops at the first fault. */
    private static final class Reader {
        private static final String WORDS =
                "cost grow stay off away people state town hour month dark alone or and not if end ";
        private static final String SIGNS = "<>=#+-*/();?:";

        // Words have their number in WORDS, signs are FIRST_SIGN and their number in SIGNS.
        private static final int OFF = 3;
        private static final int ALONE = 11;
        private static final int OR = 12;
        private static final int AND = 13;
        private static final int NOT = 14;
        private static final int IF = 15;
        private static final int END = 16;
        private static final int NUMBER = 20;
        private static final int TAPE_END = 21;
        private static final int UNKNOWN = 22;
        private static final int FIRST_SIGN = 30;
        private static final int LESS = 30;
        private static final int MORE = 31;
        private static final int SAME = 32;
        private static final int UNLIKE = 33;
        private static final int PLUS = 34;
        private static final int MINUS = 35;
        private static final int TIMES = 36;
        private static final int OVER = 37;
        private static final int OPEN = 38;
        private static final int CLOSE = 39;
        private static final int SEMICOLON = 40;
        private static final int QUESTION = 41;
        private static final int COLON = 42;
        private static final int LESS_OR_SAME = 43;
        private static final int MORE_OR_SAME = 44;

        private static final int MISPLACED = 1;
        private static final int TOO_LARGE = 2;
        private static final int TOO_DEEP = 3;
        private static final int REPEATED = 4;
        private static final int MAX_NUMBER = 9999;
        private static final int MAX_OPEN = 8;

        private final int[] tape;
        private final Text draft = new Text();
        private int length;
        private int start;
        private int behind;
        private int kind;
        private int value;
        private int fault = NONE;
        private int place = NONE;

        private Reader(int[] tape) {
            this.tape = tape;
        }

        private void read(int bytes) {
            length = bytes;
            behind = 0;
            fault = 0;
            place = NONE;
            draft.clear();
            advance();
            for (int i = 0; i < TAPE && fault == 0 && kind != TAPE_END; i++) {
                readClause();
            }
        }

        private void readClause() {
            int clause = kind;
            if (!within(clause, Text.COST, Text.STAY)) {
                refuse(MISPLACED);
                return;
            }
            if (draft.has(clause)) {
                refuse(REPEATED);
                return;
            }
            draft.first[clause] = draft.length;
            advance();
            if (clause == Text.STAY) {
                readEither(0);
            } else {
                readSum(0);
            }
            draft.behind[clause] = draft.length;
            demand(SEMICOLON);
        }

        /** Here and below: open is how many of ( not if and - stand open around this place. */
        private void readEither(int open) {
            readBoth(open);
            for (int i = 0; i < TAPE && fault == 0 && kind == OR; i++) {
                advance();
                readBoth(open);
                draft.add(OR, 0);
            }
        }

        private void readBoth(int open) {
            readAsk(open);
            for (int i = 0; i < TAPE && fault == 0 && kind == AND; i++) {
                advance();
                readAsk(open);
                draft.add(AND, 0);
            }
        }

        private void readAsk(int open) {
            if (fault != 0) {
                return;
            }
            if (kind == NOT) {
                if (open >= MAX_OPEN) {
                    refuse(TOO_DEEP);
                    return;
                }
                advance();
                readAsk(open + 1);
                draft.add(NOT, 0);
                return;
            }
            readSum(open);
            int sign = kind;
            if (!within(sign, LESS, UNLIKE) && !within(sign, LESS_OR_SAME, MORE_OR_SAME)) {
                refuse(MISPLACED);
                return;
            }
            demand(sign);
            readSum(open);
            draft.add(sign, 0);
        }

        private void readSum(int open) {
            readProduct(open);
            for (int i = 0; i < TAPE && fault == 0 && (kind == PLUS || kind == MINUS); i++) {
                int sign = kind;
                advance();
                readProduct(open);
                draft.add(sign, 0);
            }
        }

        private void readProduct(int open) {
            readOne(open);
            for (int i = 0; i < TAPE && fault == 0 && (kind == TIMES || kind == OVER); i++) {
                int sign = kind;
                advance();
                readOne(open);
                draft.add(sign, 0);
            }
        }

        private void readOne(int open) {
            if (fault != 0) {
                return;
            }
            if (kind == NUMBER && value > MAX_NUMBER) {
                refuse(TOO_LARGE);
            } else if (kind == NUMBER || within(kind, OFF, ALONE)) {
                draft.add(kind, kind == NUMBER ? value : 0);
                advance();
            } else if (kind != OPEN && kind != MINUS && kind != IF) {
                refuse(MISPLACED);
            } else if (open >= MAX_OPEN) {
                refuse(TOO_DEEP);
            } else {
                readOpened(open + 1);
            }
        }

        private void readOpened(int open) {
            int opener = kind;
            advance();
            if (opener == OPEN) {
                readSum(open);
                demand(CLOSE);
            } else if (opener == MINUS) {
                readOne(open);
                draft.add(Text.NEGATE, 0);
            } else {
                readChoice(open);
            }
        }

        private void readChoice(int open) {
            readEither(open);
            demand(QUESTION);
            int unless = draft.add(Text.JUMP_UNLESS, 0);
            readSum(open);
            demand(COLON);
            int leap = draft.add(Text.JUMP, 0);
            draft.aimHere(unless);
            readSum(open);
            demand(END);
            draft.aimHere(leap);
        }

        private void refuse(int reason) {
            if (fault == 0) {
                fault = reason;
                place = start;
            }
        }

        private void demand(int wanted) {
            if (kind != wanted) {
                refuse(MISPLACED);
            }
            if (fault == 0) {
                advance();
            }
        }

        private void advance() {
            start = behind;
            while (start < length && (tape[start] == 32 || tape[start] == 10)) {
                start++;
            }
            behind = start;
            if (start >= length) {
                kind = TAPE_END;
            } else if (isLetter(tape[start])) {
                takeWord();
            } else if (isDigit(tape[start])) {
                takeNumber();
            } else {
                takeSign();
            }
        }

        private static boolean isLetter(int sign) {
            return (sign >= 'a' && sign <= 'z') || (sign >= 'A' && sign <= 'Z');
        }

        private static boolean isDigit(int sign) {
            return sign >= '0' && sign <= '9';
        }

        private void takeWord() {
            while (behind < length && isLetter(tape[behind])) {
                behind++;
            }
            kind = UNKNOWN;
            int number = 0;
            int at = start;
            for (int i = 0; i < WORDS.length() && kind == UNKNOWN; i++) {
                int sign = WORDS.charAt(i);
                if (sign != ' ') {
                    // NONE spoils the match until the next word begins.
                    at = at != NONE && at < behind && tape[at] == sign ? at + 1 : NONE;
                } else if (at == behind) {
                    kind = number;
                } else {
                    number++;
                    at = start;
                }
            }
        }

        private void takeNumber() {
            kind = NUMBER;
            value = 0;
            while (behind < length && isDigit(tape[behind])) {
                // Held just above what is allowed: a long number must not wrap around.
                value = Math.min(value * 10 + tape[behind] - '0', MAX_NUMBER + 1);
                behind++;
            }
        }

        private void takeSign() {
            int number = SIGNS.indexOf((char) tape[start]);
            kind = number < 0 ? UNKNOWN : FIRST_SIGN + number;
            behind = start + 1;
            if ((kind == LESS || kind == MORE) && behind < length && tape[behind] == '=') {
                kind = kind == LESS ? LESS_OR_SAME : MORE_OR_SAME;
                behind++;
            }
        }
    }

    /** Works the clauses of the ruling text for a cell. */
    private static final class Worker {
        private static final int LIMIT = 1000000;
        private static final int NAMES = 9;
        // Eight open ones, and five sides that may wait for their other one in each: 46 at most.
        private static final int STACK = 64;

        private final Land land;
        private final Text[] texts;
        private final int[] names = new int[NAMES];
        private final int[] stack = new int[STACK];
        private int top;

        private Worker(Land land, Text[] texts) {
            this.land = land;
            this.texts = texts;
        }

        private boolean has(int clause) {
            return within(land.ruling, 0, TEXTS - 1) && texts[land.ruling].has(clause);
        }

        /** Only for a clause that the ruling text has. */
        private int ask(int clause, int cell, int hour, int month, boolean summery, int alone) {
            if (!has(clause)) {
                return 0;
            }
            int minutes = land.offOf(cell, hour, summery);
            names[0] = minutes;
            names[1] = Math.abs(minutes);
            names[2] = land.people[cell];
            names[3] = land.state[cell];
            names[4] = land.town[cell] ? 1 : 0;
            names[5] = hour;
            names[6] = month;
            names[7] = land.darkOf(cell, month, minutes);
            names[8] = alone;
            Text text = texts[land.ruling];
            return work(text, text.first[clause], text.behind[clause]);
        }

        private int work(Text text, int first, int behind) {
            top = 0;
            int at = first;
            for (int i = 0; i < TAPE && within(at, 0, behind - 1); i++) {
                int kind = text.kindAt(at);
                int value = text.valueAt(at);
                at++;
                if (kind == Text.JUMP || (kind == Text.JUMP_UNLESS && taken() == 0)) {
                    at = value;
                } else if (kind == Reader.NUMBER) {
                    put(value);
                } else if (within(kind, Reader.OFF, Reader.ALONE)) {
                    put(names[kind - Reader.OFF]);
                } else if (kind == Text.NEGATE) {
                    put(-taken());
                } else if (kind == Reader.NOT) {
                    put(taken() == 0 ? 1 : 0);
                } else if (kind != Text.JUMP_UNLESS) {
                    int right = taken();
                    put(limited(joined(kind, taken(), right)));
                }
            }
            return taken();
        }

        private void put(int value) {
            if (top < STACK) {
                stack[top] = value;
                top++;
            }
        }

        private int taken() {
            if (top <= 0) {
                return 0;
            }
            top--;
            return stack[top];
        }

        private static long joined(int kind, int left, int right) {
            switch (kind) {
                case Reader.OR:
                    return left | right;
                case Reader.AND:
                    return left & right;
                case Reader.LESS:
                    return left < right ? 1 : 0;
                case Reader.LESS_OR_SAME:
                    return left <= right ? 1 : 0;
                case Reader.MORE:
                    return left > right ? 1 : 0;
                case Reader.MORE_OR_SAME:
                    return left >= right ? 1 : 0;
                case Reader.SAME:
                    return left == right ? 1 : 0;
                case Reader.UNLIKE:
                    return left != right ? 1 : 0;
                case Reader.PLUS:
                    return (long) left + right;
                case Reader.MINUS:
                    return (long) left - right;
                case Reader.TIMES:
                    return (long) left * right;
                default:
                    return right == 0 ? 0 : left / right;
            }
        }

        private static int limited(long value) {
            if (value > LIMIT) {
                return LIMIT;
            }
            return value < -LIMIT ? -LIMIT : (int) value;
        }
    }

    /** What each cell pays by each hour: worked once, then kept until what it rests on changes. */
    private static final class Purse {
        private static final int MAX_COST = 9999;

        private final Land land;
        private final Worker worker;
        private final int[] table;
        private final boolean[] fresh;

        private Purse(Land land, Worker worker) {
            this.land = land;
            this.worker = worker;
            table = new int[land.sun.length * HOURS];
            fresh = new boolean[land.sun.length];
        }

        private void forget(int cell) {
            fresh[cell] = false;
        }

        private void forgetAll() {
            for (int i = 0; i < fresh.length; i++) {
                fresh[i] = false;
            }
        }

        private void refresh() {
            for (int i = 0; i < fresh.length; i++) {
                for (int k = 0; k < land.hours && !fresh[i]; k++) {
                    table[i * HOURS + k] = allMonths(i, k);
                }
                fresh[i] = true;
            }
        }

        private int allMonths(int cell, int hour) {
            int sum = 0;
            for (int i = 0; i < MONTHS; i++) {
                sum += inMonth(cell, hour, i, land.inSummer(i));
            }
            return sum;
        }

        private int inMonth(int cell, int hour, int month, boolean summery) {
            if (!worker.has(Text.COST)) {
                return Math.abs(land.offOf(cell, hour, summery)) * land.people[cell];
            }
            return bounded(worker.ask(Text.COST, cell, hour, month, summery, 0), 0, MAX_COST);
        }

        private int payOf(int cell, int hour) {
            return table[cell * HOURS + hour];
        }

        private int leastPayOf(int cell) {
            int least = payOf(cell, 0);
            for (int i = 1; i < land.hours; i++) {
                least = Math.min(least, payOf(cell, i));
            }
            return least;
        }

        private int payOfAll(int[] hourOf) {
            int sum = 0;
            for (int i = 0; i < fresh.length; i++) {
                sum += payOf(i, hourOf[i]);
            }
            return sum;
        }

        private int payOfAllBy(int hour) {
            int sum = 0;
            for (int i = 0; i < fresh.length; i++) {
                sum += payOf(i, hour);
            }
            return sum;
        }

        /** What all cells pay by the parting in one month, were it in summer or not. */
        private int payOfMonth(int month, boolean summery) {
            int sum = 0;
            for (int i = 0; i < fresh.length; i++) {
                sum += inMonth(i, land.parting[i], month, summery);
            }
            return sum;
        }
    }

    /** The pieces of a parting: each cell knows the lowest cell of its piece. */
    private static final class Pieces {
        private final int width;
        private final int[] lowest;

        private Pieces(int width, int cells) {
            this.width = width;
            lowest = new int[cells];
        }

        private void trace(int[] hourOf) {
            for (int i = 0; i < lowest.length; i++) {
                lowest[i] = i;
            }
            boolean changed = true;
            // A piece's lowest number goes on by one cell at least in each sweep.
            for (int i = 0; i < lowest.length && changed; i++) {
                changed = sweep(hourOf);
            }
        }

        private boolean sweep(int[] hourOf) {
            boolean changed = false;
            for (int i = 0; i < lowest.length; i++) {
                if ((i + 1) % width != 0) {
                    changed |= level(hourOf, i, i + 1);
                }
                changed |= level(hourOf, i, i + width);
            }
            return changed;
        }

        private boolean level(int[] hourOf, int cell, int beside) {
            if (beside >= lowest.length || hourOf[cell] != hourOf[beside]
                    || lowest[cell] == lowest[beside]) {
                return false;
            }
            lowest[cell] = Math.min(lowest[cell], lowest[beside]);
            lowest[beside] = lowest[cell];
            return true;
        }

        private int count() {
            int sum = 0;
            for (int i = 0; i < lowest.length; i++) {
                if (lowest[i] == i) {
                    sum++;
                }
            }
            return sum;
        }

        private int firstAstray(int[] hourOf, int[] kept) {
            for (int i = 0; i < lowest.length; i++) {
                if (kept[i] != NONE && kept[i] != hourOf[i]) {
                    return i;
                }
                if (lowest[i] != lowestOfHour(hourOf, i)) {
                    return i;
                }
            }
            return NONE;
        }

        private static int lowestOfHour(int[] hourOf, int cell) {
            for (int i = 0; i < cell; i++) {
                if (hourOf[i] == hourOf[cell]) {
                    return i;
                }
            }
            return cell;
        }
    }

    /** A network of pipes, in which the greatest flow from SOURCE to SINK shows a least cut. */
    private static final class Network {
        private static final int SOURCE = 0;
        private static final int SINK = 1;
        private static final int INNER = 2;
        private static final int NODES = INNER + MAX_WIDTH * MAX_HEIGHT * (HOURS - 1);
        private static final int PIPES =
                2 * (MAX_WIDTH * MAX_HEIGHT * HOURS + TIES * (HOURS - 1));
        private static final int MANY_STEPS = 1000000;

        private int nodes;
        private int pipes;
        private final int[] firstPipe = new int[NODES];
        private final int[] nextPipe = new int[PIPES];
        private final int[] goal = new int[PIPES];
        private final long[] room = new long[PIPES];
        private final int[] depth = new int[NODES];
        private final int[] turn = new int[NODES];
        private final int[] queue = new int[NODES];
        private final int[] path = new int[NODES];

        private void clear(int count) {
            nodes = bounded(count, INNER, NODES);
            pipes = 0;
            for (int i = 0; i < nodes; i++) {
                firstPipe[i] = NONE;
            }
        }

        /** A pipe and its way back stand side by side, so that the one's number ^ 1 is the other's. */
        private void join(int from, int to, long there, long back) {
            if (pipes + 2 > PIPES || !within(from, 0, nodes - 1) || !within(to, 0, nodes - 1)) {
                return;
            }
            addPipe(from, to, there);
            addPipe(to, from, back);
        }

        private void addPipe(int from, int to, long wide) {
            goal[pipes] = to;
            room[pipes] = wide;
            nextPipe[pipes] = firstPipe[from];
            firstPipe[from] = pipes;
            pipes++;
        }

        /** Fills the network; what is reached then lies on the source's side of the least cut. */
        private long fill() {
            long flow = 0;
            for (int i = 0; i < NODES && findDepths(); i++) {
                System.arraycopy(firstPipe, 0, turn, 0, nodes);
                flow += pushAll();
            }
            return flow;
        }

        private boolean reached(int node) {
            return within(node, 0, nodes - 1) && depth[node] != NONE;
        }

        private boolean findDepths() {
            for (int i = 0; i < nodes; i++) {
                depth[i] = NONE;
            }
            depth[SOURCE] = 0;
            queue[0] = SOURCE;
            int told = 1;
            for (int i = 0; i < told && i < nodes; i++) {
                told = queueBehind(queue[i], told);
            }
            return depth[SINK] != NONE;
        }

        /** Queues what is reached from a node first of all; how many are queued then. */
        private int queueBehind(int node, int queued) {
            int told = queued;
            int pipe = firstPipe[node];
            for (int i = 0; i < PIPES && pipe != NONE; i++) {
                int to = goal[pipe];
                if (room[pipe] > 0 && depth[to] == NONE && told < nodes) {
                    depth[to] = depth[node] + 1;
                    queue[told] = to;
                    told++;
                }
                pipe = nextPipe[pipe];
            }
            return told;
        }

        /** All the flow that goes from depth to depth, path by path. */
        private long pushAll() {
            long flow = 0;
            int length = 0;
            int node = SOURCE;
            for (int i = 0; i < MANY_STEPS; i++) {
                if (node == SINK) {
                    flow += pushAlong(length);
                    length = 0;
                    node = SOURCE;
                    continue;
                }
                int pipe = deeperPipe(node);
                if (pipe != NONE && length < NODES) {
                    path[length] = pipe;
                    length++;
                    node = goal[pipe];
                } else if (length == 0) {
                    break;
                } else {
                    // A dead end: nothing more goes through this node in this round.
                    length--;
                    depth[node] = NODES;
                    node = goal[path[length] ^ 1];
                }
            }
            return flow;
        }

        private int deeperPipe(int node) {
            for (int i = 0; i < PIPES && turn[node] != NONE; i++) {
                int pipe = turn[node];
                if (room[pipe] > 0 && depth[goal[pipe]] == depth[node] + 1) {
                    return pipe;
                }
                turn[node] = nextPipe[pipe];
            }
            return NONE;
        }

        private long pushAlong(int length) {
            long flow = length > 0 ? room[path[0]] : 0;
            for (int i = 1; i < length; i++) {
                flow = Math.min(flow, room[path[i]]);
            }
            for (int i = 0; i < length; i++) {
                room[path[i]] -= flow;
                room[path[i] ^ 1] += flow;
            }
            return flow;
        }
    }

    /**
     * Finds the parting of least price as a least cut: each group of cells has a chain of nodes, one
     * between any two hours, and stands at the hour at which the cut goes through its chain.
     */
    private static final class Parter {
        // Above every price, so that a cut as dear as this breaks a rule.
        private static final long FORBIDDEN = 1000000000L;

        private final Land land;
        private final Purse purse;
        private final Network network = new Network();
        private final int[] hourOf;
        private final long[] groupPays;
        private final int[] chosen = new int[HOURS];
        private int chosenCount;
        private int leastPrice;

        private Parter(Land land, Purse purse) {
            this.land = land;
            this.purse = purse;
            hourOf = new int[land.sun.length];
            groupPays = new long[Math.max(land.sun.length, STATES) * HOURS];
        }

        /** The least price by a set of hours, where one cell may be barred from one hour. */
        private int solve(int set, boolean whole, int barredCell, int barredHour) {
            choose(set);
            weigh(whole, barredCell, barredHour);
            int groups = whole ? STATES : hourOf.length;
            network.clear(Network.INNER + groups * (chosenCount - 1));
            for (int i = 0; i < groups; i++) {
                layChain(i);
            }
            for (int i = 0; i < land.ties.count; i++) {
                layTie(i, whole);
            }
            long price = network.fill();
            if (price >= FORBIDDEN) {
                return NONE;
            }
            for (int i = 0; i < hourOf.length; i++) {
                hourOf[i] = hourByCut(groupOf(i, whole));
            }
            return (int) price;
        }

        private void choose(int set) {
            chosenCount = 0;
            for (int i = 0; i < land.hours; i++) {
                if ((set >> i & 1) != 0) {
                    chosen[chosenCount] = i;
                    chosenCount++;
                }
            }
        }

        private int groupOf(int cell, boolean whole) {
            return whole ? land.state[cell] : cell;
        }

        private void weigh(boolean whole, int barredCell, int barredHour) {
            for (int i = 0; i < groupPays.length; i++) {
                groupPays[i] = 0;
            }
            for (int i = 0; i < hourOf.length; i++) {
                for (int k = 0; k < chosenCount; k++) {
                    int hour = chosen[k];
                    boolean barred = i == barredCell && hour == barredHour;
                    boolean free = land.kept[i] == NONE || land.kept[i] == hour;
                    groupPays[groupOf(i, whole) * HOURS + k] +=
                            free && !barred ? purse.payOf(i, hour) : FORBIDDEN;
                }
            }
        }

        /** The node of a group ahead of the chosen hour k: on the source's side, k or above it. */
        private int nodeOf(int group, int k) {
            if (k <= 0) {
                return Network.SOURCE;
            }
            if (k >= chosenCount) {
                return Network.SINK;
            }
            return Network.INNER + group * (chosenCount - 1) + k - 1;
        }

        private void layChain(int group) {
            for (int k = 0; k < chosenCount; k++) {
                // The way back keeps a cut from going through one chain twice.
                boolean inner = k > 0 && k + 1 < chosenCount;
                network.join(nodeOf(group, k), nodeOf(group, k + 1),
                        groupPays[group * HOURS + k], inner ? FORBIDDEN : 0);
            }
        }

        private void layTie(int tie, boolean whole) {
            int one = groupOf(land.ties.one[tie], whole);
            int other = groupOf(land.ties.other[tie], whole);
            if (one == other) {
                return;
            }
            for (int k = 1; k < chosenCount; k++) {
                int apart = land.offset[chosen[k]] - land.offset[chosen[k - 1]];
                long pay = land.ties.weight[tie] * apart;
                network.join(nodeOf(one, k), nodeOf(other, k), pay, pay);
            }
        }

        private int hourByCut(int group) {
            int k = 0;
            while (k + 1 < chosenCount && network.reached(nodeOf(group, k + 1))) {
                k++;
            }
            return chosen[k];
        }

        /** The set of k hours with the least price, which stays in leastPrice; NONE if none has one. */
        private int leastSet(int k, boolean whole) {
            int least = NONE;
            for (int set = 1; set < 1 << land.hours; set++) {
                if (Integer.bitCount(set) == k) {
                    int price = solve(set, whole, NONE, NONE);
                    if (price != NONE && (least == NONE || price < leastPrice)) {
                        least = set;
                        leastPrice = price;
                    }
                }
            }
            return least;
        }
    }

    /** Where it ends if cells choose their hours freely. */
    private static final class Drift {
        private static final int ROUNDS = 20;

        private final Land land;
        private final Purse purse;
        private final Worker worker;
        private final int[] hourOf;
        private int rounds;
        private int changes;

        private Drift(Land land, Purse purse, Worker worker) {
            this.land = land;
            this.purse = purse;
            this.worker = worker;
            hourOf = new int[land.sun.length];
        }

        private void run() {
            System.arraycopy(land.parting, 0, hourOf, 0, hourOf.length);
            changes = 0;
            rounds = NONE;
            for (int i = 1; i <= ROUNDS && rounds == NONE; i++) {
                int before = changes;
                for (int k = 0; k < hourOf.length; k++) {
                    choose(k);
                }
                if (changes == before) {
                    rounds = i;
                }
            }
        }

        private void choose(int cell) {
            if (land.kept[cell] != NONE || stays(cell)) {
                return;
            }
            int now = hourOf[cell];
            int liked = now;
            int least = payOf(cell, now);
            for (int i = 0; i < land.hours; i++) {
                int pay = payOf(cell, i);
                // Of like ones the lowest, but for the one that the cell has.
                if (pay < least) {
                    liked = i;
                    least = pay;
                }
            }
            if (liked != now) {
                hourOf[cell] = liked;
                changes++;
            }
        }

        private int payOf(int cell, int hour) {
            return purse.payOf(cell, hour) + land.ties.payOfCell(cell, hour, hourOf, land.offset);
        }

        private boolean stays(int cell) {
            if (!worker.has(Text.STAY)) {
                return false;
            }
            int alone = land.ties.aloneAt(cell, hourOf);
            return worker.ask(Text.STAY, cell, hourOf[cell], 0, land.inSummer(0), alone) != 0;
        }
    }
}
