import java.util.Arrays;
import java.util.NoSuchElementException;

/** A valley that posts by glacier. What each call promises stands in DOC.md, by the number of its promise. */
public final class GlacierMail {
    public static final int NONE = -1;

    private static final int YEARS = 300;
    private static final int LAST_YEAR = YEARS - 1;
    private static final int MOST_LANES = 6;
    private static final int MOST_LAST = 99;
    private static final int MOST_SPEED = 20;
    private static final int MOST_DEEP = 99;
    private static final int MOST_PEOPLE = 8;
    private static final int MOST_LETTERS = 24;
    private static final int MOST_TAPE = 400;
    private static final int MOST_TEXTS = 12;
    private static final int MOST_ACTS = 12;
    private static final int MOST_YEARS_A_CALL = 50;
    private static final int MOST_THIEF_YEARS = 30;

    // columns of a FLOOD
    private static final int FLOOD_YEAR = 0;
    private static final int FLOOD_ROW = 1;
    private static final int FLOOD_MORE = 2;

    // columns of a PERSON; they are the "what" of person()
    private static final int HUT_LANE = 0;
    private static final int HUT_ROW = 1;
    private static final int WATCHES = 2;

    // columns of a LETTER; they are the "what" of letter()
    private static final int FROM = 0;
    private static final int TO = 1;
    private static final int LANE = 2;
    private static final int YEAR = 3;
    private static final int ROW = 4;
    private static final int OPENER = 5;
    private static final int OPENED_IN = 6;

    // columns of how a LETTER ends
    private static final int OUT = 0;
    private static final int OUT_DEEP = 1;

    private final byte[] tape = new byte[MOST_TAPE];
    private int tapeLength = 0;
    private int wrongByte = NONE;

    private final State told = new State();
    private final State draft = new State();
    private final State image = new State();
    private boolean imageKept = false;
    private final History history = new History();

    private final Ice ice = new Ice(told);
    private final Way way = new Way(told, ice);
    private final Way otherWay = new Way(told, ice);
    private final Answers answers = new Answers(told, way);
    private final ValleyReader valleyReader = new ValleyReader(tape, draft);
    private final LawReader lawReader = new LawReader(tape);

    private final Rows ends = new Rows(MOST_LETTERS, 2);
    private boolean endsKnown = false;
    private final Rows came = new Rows(MOST_THIEF_YEARS, MOST_LANES);
    private final Rows taken = new Rows(MOST_THIEF_YEARS + 1, MOST_LANES);

    public GlacierMail() {
    }

    // ---- the TAPE and the texts ----

    public int feed(int a, int b, int c, int d, int e) {
        if (tapeLength + 20 > MOST_TAPE) {
            return NONE;
        }
        putNumber(a);
        putNumber(b);
        putNumber(c);
        putNumber(d);
        putNumber(e);
        return tapeLength;
    }

    private void putNumber(int number) {
        for (int shift = 24; shift >= 0; shift -= 8) {
            if (tapeLength < tape.length) {
                tape[tapeLength] = (byte) (number >>> shift);
                tapeLength++;
            }
        }
    }

    public boolean end(int n) {
        if (n < 0 || n > tapeLength) {
            return false;
        }
        tapeLength = n;
        return true;
    }

    public int valley() throws IllegalArgumentException, UnsupportedOperationException {
        draft.copyFrom(told);
        wrongByte = valleyReader.readText(tapeLength);
        tapeLength = 0;
        if (wrongByte != NONE) {
            throw new IllegalArgumentException("the text of the valley is wrong");
        }
        if (told.texts >= MOST_TEXTS) {
            throw new UnsupportedOperationException("there are twelve texts");
        }
        told.copyFrom(draft);
        told.texts++;
        forgetWays();
        return told.texts;
    }

    public int law() throws IllegalArgumentException {
        wrongByte = lawReader.readText(tapeLength);
        tapeLength = 0;
        if (wrongByte != NONE) {
            throw new IllegalArgumentException("the text of the law is wrong");
        }
        told.law = lawReader.makeLaw();
        forgetWays();
        return lawLines();
    }

    /** To be called when a text, or going back, changed what is told. */
    private void forgetWays() {
        ice.renew();
        history.forget();
        endsKnown = false;
    }

    public int fault() {
        return wrongByte;
    }

    // ---- the ice ----

    public int heat(int year) throws IllegalArgumentException {
        needYear(year);
        return ice.heatIn(year);
    }

    public int speed(int lane, int row) throws IndexOutOfBoundsException {
        needLane(lane);
        needRow(row);
        return ice.speedAt(lane, row);
    }

    public int flow(int lane, int row, int year) throws IndexOutOfBoundsException, IllegalArgumentException {
        needLane(lane);
        needRow(row);
        needYear(year);
        return ice.flowAt(lane, row, year);
    }

    // ---- people and letters ----

    public int person(int person, int what) throws IndexOutOfBoundsException, NoSuchElementException {
        needPerson(person);
        switch (what) {
            case 0:
            case 1:
            case 2:
                return told.people.get(person, what);
            case 3:
                return lettersWith(FROM, person);
            case 4:
                return lettersWith(OPENER, person);
            case 5:
                return waiting(person);
            default:
                throw new NoSuchElementException("a person has no such thing");
        }
    }

    public int letter(int letter, int what) throws IndexOutOfBoundsException, NoSuchElementException {
        needLetter(letter);
        switch (what) {
            case 0:
            case 1:
            case 2:
            case 3:
            case 4:
            case 5:
            case 6:
                return told.letters.get(letter, what);
            case 7:
                return outOf(letter);
            case 8:
                return outOf(letter) == NONE ? NONE : way.deep;
            case 9:
                return firstBare(letter);
            default:
                throw new NoSuchElementException("a letter has no such thing");
        }
    }

    public int where(int letter, int year) throws IndexOutOfBoundsException, IllegalArgumentException {
        needLetter(letter);
        needYear(year);
        if (year < told.letters.get(letter, YEAR)) {
            return NONE;
        }
        way.startLetter(letter);
        way.goOnTo(year);
        return Math.min(way.row, told.last);
    }

    public int deep(int letter, int year) throws IndexOutOfBoundsException, IllegalArgumentException {
        needLetter(letter);
        needYear(year);
        if (year < told.letters.get(letter, YEAR)) {
            return NONE;
        }
        way.startLetter(letter);
        way.goOnTo(year);
        return way.deep;
    }

    // ---- acts ----

    public int post(int from, int to)
            throws IndexOutOfBoundsException, IllegalArgumentException, UnsupportedOperationException {
        needPerson(from);
        needPerson(to);
        needUnlike(from, to);
        if (told.letters.isFull()) {
            throw new UnsupportedOperationException("there are twenty-four letters");
        }
        history.remember(told);
        endsKnown = false;
        return told.throwIn(from, to, told.people.get(from, HUT_LANE), told.people.get(from, HUT_ROW));
    }

    public int watch(int person, int lane) throws IndexOutOfBoundsException {
        needPerson(person);
        if (lane != NONE) {
            needLane(lane);
        }
        history.remember(told);
        int before = told.people.get(person, WATCHES);
        told.people.put(person, WATCHES, lane);
        return before;
    }

    public int open(int letter) throws IndexOutOfBoundsException, IllegalStateException {
        needLetter(letter);
        reckonEnds();
        if (!waits(letter)) {
            throw new IllegalStateException("it does not wait");
        }
        history.remember(told);
        told.openLetter(letter, told.letters.get(letter, TO));
        return told.now - told.letters.get(letter, YEAR);
    }

    public int years(int n) throws IllegalArgumentException {
        if (n < 1 || n > MOST_YEARS_A_CALL || n > LAST_YEAR - told.now) {
            throw new IllegalArgumentException("there are not so many years");
        }
        history.remember(told);
        reckonEnds();
        int opened = 0;
        for (int i = 0; i < n; i++) {
            opened += oneYearMore();
        }
        return opened;
    }

    private int oneYearMore() {
        told.now++;
        int opened = 0;
        for (int letter = 0; letter < told.letters.size(); letter++) {
            if (waits(letter)) {
                int opener = openerOf(letter);
                if (opener != NONE) {
                    told.openLetter(letter, opener);
                    opened++;
                }
            }
        }
        return opened;
    }

    private int openerOf(int letter) {
        int lane = told.letters.get(letter, LANE);
        int to = told.letters.get(letter, TO);
        if (told.people.get(to, WATCHES) == lane) {
            return to;
        }
        int age = told.now - told.letters.get(letter, YEAR);
        for (int person = 0; person < told.people.size(); person++) {
            if (told.people.get(person, WATCHES) == lane
                    && ice.mayOpen(person, lane, age, ends.get(letter, OUT_DEEP))) {
                return person;
            }
        }
        return NONE;
    }

    // ---- throws as they would be ----

    public int throwsFor(int lane, int year, int out, int what)
            throws IndexOutOfBoundsException, IllegalArgumentException, NoSuchElementException {
        needLane(lane);
        needYear(year);
        needYear(out);
        if (year < told.now) {
            throw new IllegalArgumentException("that year has gone by");
        }
        if (what < 0 || what > 2) {
            throw new NoSuchElementException("throws have no such thing");
        }
        int many = 0;
        int least = NONE;
        int greatest = NONE;
        for (int row = 0; row < told.last; row++) {
            way.start(lane, row, year, false);
            if (way.runOut(out) == out) {
                many++;
                least = least == NONE ? row : least;
                greatest = row;
            }
        }
        return what == 0 ? many : what == 1 ? least : greatest;
    }

    public int latest(int person, int year) throws IndexOutOfBoundsException, IllegalArgumentException {
        needPerson(person);
        needYear(year);
        for (int thrown = year; thrown >= told.now; thrown--) {
            way.startHut(person, thrown);
            if (way.runOut(year) != NONE) {
                return thrown;
            }
        }
        return NONE;
    }

    public int hut(int lane, int n) throws IndexOutOfBoundsException, IllegalArgumentException {
        needLane(lane);
        if (n < 1 || n > LAST_YEAR) {
            throw new IllegalArgumentException("so many years are none");
        }
        int limit = Math.min(LAST_YEAR, told.now + n);
        for (int row = 0; row < told.last; row++) {
            way.start(lane, row, told.now, false);
            if (way.runOut(limit) != NONE) {
                return row;
            }
        }
        return NONE;
    }

    // ---- what letters do ----

    public int without(int letter, int flood) throws IndexOutOfBoundsException {
        needLetter(letter);
        need(flood, told.floods.size());
        way.startLetter(letter);
        way.leaveOut(flood);
        return way.runOut(LAST_YEAR);
    }

    public int moved(int letter) throws IndexOutOfBoundsException {
        needLetter(letter);
        way.startLetter(letter);
        way.runOut(LAST_YEAR);
        return way.moved;
    }

    public int lost() {
        reckonEnds();
        int bits = 0;
        for (int letter = 0; letter < ends.size(); letter++) {
            if (ends.get(letter, OUT) == NONE) {
                bits |= 1 << letter;
            }
        }
        return bits;
    }

    public int market(boolean many) {
        reckonEnds();
        int best = NONE;
        int most = 0;
        for (int letter = 0; letter < ends.size(); letter++) {
            int out = ends.get(letter, OUT);
            int with = out == NONE ? 0 : outIn(out, false);
            if (with > most || with == most && out < best) {
                most = with;
                best = out;
            }
        }
        return many ? most : best;
    }

    public int passes(int letter) throws IndexOutOfBoundsException {
        needLetter(letter);
        int many = 0;
        for (int other = 0; other < told.letters.size(); other++) {
            if (other != letter && sameLane(letter, other) && passesBy(letter, other)) {
                many++;
            }
        }
        return many;
    }

    private boolean passesBy(int letter, int other) {
        int begin = startBoth(letter, other, 0);
        if (!bothInIce() || way.row >= otherWay.row) {
            return false;
        }
        for (int year = begin + 1; year < YEARS; year++) {
            stepBoth();
            if (!bothInIce()) {
                return false;
            }
            if (way.row > otherWay.row) {
                return true;
            }
        }
        return false;
    }

    public int writers(int lane, int year, int deep) throws IndexOutOfBoundsException, IllegalArgumentException {
        needLane(lane);
        needFind(year, deep);
        int bits = 0;
        for (int person = 0; person < told.people.size(); person++) {
            if (latestWriting(person, lane, year, deep) != NONE) {
                bits |= 1 << person;
            }
        }
        return bits;
    }

    public int wrote(int person, int lane, int year, int deep)
            throws IndexOutOfBoundsException, IllegalArgumentException {
        needPerson(person);
        needLane(lane);
        needFind(year, deep);
        return latestWriting(person, lane, year, deep);
    }

    private int latestWriting(int person, int lane, int out, int deep) {
        if (told.people.get(person, HUT_LANE) != lane) {
            return NONE;
        }
        for (int thrown = out - 1; thrown >= 0; thrown--) {
            way.startHut(person, thrown);
            if (way.runOut(out) == out && way.deep == deep) {
                return thrown;
            }
        }
        return NONE;
    }

    // ---- poles ----

    public int table(int table, int lane) throws IndexOutOfBoundsException {
        needTable(table);
        needLane(lane);
        return told.tables.get(table, lane);
    }

    public boolean apart(int table, int other, int lanes) throws IndexOutOfBoundsException {
        needTable(table);
        needTable(other);
        return toldApart(table, other, lanes);
    }

    private boolean toldApart(int table, int other, int lanes) {
        for (int lane = 0; lane < told.lanes; lane++) {
            if ((lanes >> lane & 1) == 1 && told.tables.get(table, lane) != told.tables.get(other, lane)) {
                return true;
            }
        }
        return false;
    }

    public int poles() {
        int best = NONE;
        for (int lanes = 0; lanes < 1 << told.lanes; lanes++) {
            boolean fewer = best == NONE || Integer.bitCount(lanes) < Integer.bitCount(best);
            if (fewer && allToldApart(lanes)) {
                best = lanes;
            }
        }
        return best;
    }

    private boolean allToldApart(int lanes) {
        for (int table = 0; table < told.tables.size(); table++) {
            for (int other = table + 1; other < told.tables.size(); other++) {
                if (!toldApart(table, other, lanes)) {
                    return false;
                }
            }
        }
        return true;
    }

    public int fit() throws IllegalArgumentException {
        int length = tapeLength;
        tapeLength = 0;
        if (!areReadings(length)) {
            throw new IllegalArgumentException("the tape holds no readings");
        }
        int bits = 0;
        for (int table = 0; table < told.tables.size(); table++) {
            if (fitsReadings(table, length)) {
                bits |= 1 << table;
            }
        }
        return bits;
    }

    private boolean areReadings(int length) {
        if (length % 2 != 0) {
            return false;
        }
        for (int i = 0; i + 1 < length && i + 1 < tape.length; i += 2) {
            boolean lane = tape[i] >= 0 && tape[i] < told.lanes;
            boolean speed = tape[i + 1] >= 0 && tape[i + 1] <= MOST_SPEED;
            if (!lane || !speed) {
                return false;
            }
        }
        return true;
    }

    private boolean fitsReadings(int table, int length) {
        for (int i = 0; i + 1 < length && i + 1 < tape.length; i += 2) {
            if (told.tables.get(table, tape[i]) != tape[i + 1]) {
                return false;
            }
        }
        return true;
    }

    // ---- answers ----

    public int soonest(int from, int to, boolean many) throws IndexOutOfBoundsException, IllegalArgumentException {
        needPerson(from);
        needPerson(to);
        needUnlike(from, to);
        answers.spread(from, to, LAST_YEAR);
        int year = answers.firstYear(to);
        return many && year != NONE ? answers.fewestThrows(to, year) : year;
    }

    public int chain(int from, int to, int k) throws IndexOutOfBoundsException, IllegalArgumentException {
        needPerson(from);
        needPerson(to);
        needUnlike(from, to);
        if (k < 0) {
            throw new IllegalArgumentException("no throw is below the first");
        }
        answers.spread(from, to, LAST_YEAR);
        return answers.holder(from, to, k);
    }

    public int reached(int from, int year) throws IndexOutOfBoundsException, IllegalArgumentException {
        needPerson(from);
        needYear(year);
        answers.spread(from, NONE, year);
        int bits = 1 << from;
        for (int person = 0; person < told.people.size(); person++) {
            if (answers.firstYear(person) != NONE) {
                bits |= 1 << person;
            }
        }
        return bits;
    }

    // ---- at the lip ----

    public int thieves(int n, boolean begin) throws IllegalArgumentException {
        needThiefYears(n);
        reckonEnds();
        reckonCame(n);
        taken.reset(n + 1);
        for (int year = n - 1; year >= 0; year--) {
            for (int lane = 0; lane < told.lanes; lane++) {
                taken.put(year, lane, came.get(year, lane) + bestNext(year + 1, lane));
            }
        }
        int best = 0;
        for (int lane = 1; lane < told.lanes; lane++) {
            if (taken.get(0, lane) > taken.get(0, best)) {
                best = lane;
            }
        }
        return begin ? best : taken.get(0, best);
    }

    private int bestNext(int year, int lane) {
        int beside = Math.max(taken.get(year, lane - 1), taken.get(year, lane + 1));
        return Math.max(beside, taken.get(year, lane));
    }

    public int watchman(int n, boolean many) throws IllegalArgumentException {
        needThiefYears(n);
        reckonEnds();
        reckonCame(n);
        int best = 0;
        for (int lane = 1; lane < told.lanes; lane++) {
            if (mostBeside(lane, n) < mostBeside(best, n)) {
                best = lane;
            }
        }
        return many ? mostBeside(best, n) : best;
    }

    private int mostBeside(int guarded, int n) {
        int most = 0;
        for (int lane = 0; lane < told.lanes; lane++) {
            int sum = 0;
            for (int year = 0; year < n; year++) {
                sum += came.get(year, lane);
            }
            if (lane != guarded) {
                most = Math.max(most, sum);
            }
        }
        return most;
    }

    public int meeting(int letter, int other) throws IndexOutOfBoundsException, IllegalArgumentException {
        needLetter(letter);
        needLetter(other);
        needUnlike(letter, other);
        if (!sameLane(letter, other)) {
            return NONE;
        }
        int begin = startBoth(letter, other, told.now);
        for (int year = begin; year < YEARS; year++) {
            if (!bothInIce()) {
                return NONE;
            }
            if (way.row == otherWay.row) {
                return year;
            }
            stepBoth();
        }
        return NONE;
    }

    public int outs(int year) throws IllegalArgumentException {
        needYear(year);
        reckonEnds();
        return outIn(year, true);
    }

    public int order(int k) {
        reckonEnds();
        for (int letter = 0; letter < ends.size(); letter++) {
            if (ends.get(letter, OUT) != NONE && outAheadOf(letter) == k) {
                return letter;
            }
        }
        return NONE;
    }

    private int outAheadOf(int letter) {
        int out = ends.get(letter, OUT);
        int many = 0;
        for (int other = 0; other < ends.size(); other++) {
            int otherOut = ends.get(other, OUT);
            boolean sooner = otherOut != NONE && otherOut < out;
            if (sooner || otherOut == out && other < letter) {
                many++;
            }
        }
        return many;
    }

    public int streams(int year, boolean second) throws IllegalArgumentException {
        needYear(year);
        reckonEnds();
        int many = 0;
        for (int letter = 0; letter < ends.size(); letter++) {
            boolean inSecond = told.letters.get(letter, LANE) >= told.stripe;
            if (inSecond == second && isOutBy(ends.get(letter, OUT), year)) {
                many++;
            }
        }
        return many;
    }

    public int range(int lane, int year) throws IndexOutOfBoundsException, IllegalArgumentException {
        needLane(lane);
        needYear(year);
        way.start(lane, 0, year, false);
        int out = way.runOut(LAST_YEAR);
        return out == NONE ? NONE : out - year;
    }

    public int swiftest(int row, int year) throws IndexOutOfBoundsException, IllegalArgumentException {
        needRow(row);
        needYear(year);
        int best = NONE;
        int soonest = YEARS;
        for (int lane = 0; lane < told.lanes; lane++) {
            way.start(lane, row, year, false);
            int out = way.runOut(LAST_YEAR);
            if (out != NONE && out < soonest) {
                soonest = out;
                best = lane;
            }
        }
        return best;
    }

    public int bare(int year) throws IllegalArgumentException {
        needYear(year);
        int bits = 0;
        for (int letter = 0; letter < told.letters.size(); letter++) {
            if (told.letters.get(letter, YEAR) < year) {
                way.startLetter(letter);
                way.goOnTo(year);
                if (!way.isOut() && way.deep == 0) {
                    bits |= 1 << letter;
                }
            }
        }
        return bits;
    }

    // ---- the log, going back, numbers ----

    public int log(int k, int what) throws NoSuchElementException {
        if (what < 0 || what > 2) {
            throw new NoSuchElementException("an opening has no such thing");
        }
        return told.openings.get(k, what);
    }

    public boolean undo() {
        endsKnown = false;
        return history.takeBack(told);
    }

    public void image() {
        image.copyFrom(told);
        imageKept = true;
    }

    public boolean back() {
        if (!imageKept) {
            return false;
        }
        told.copyFrom(image);
        forgetWays();
        return true;
    }

    public int count(int what) {
        switch (what) {
            case 0: return told.lanes;
            case 1: return told.last;
            case 2: return told.sections.size();
            case 3: return told.people.size();
            case 4: return told.letters.size();
            case 5: return told.floods.size();
            case 6: return told.tables.size();
            case 7: return told.texts;
            case 8: return lawLines();
            case 9: return told.now;
            case 10: return told.snow;
            case 11: return told.fall;
            case 12: return told.stripe;
            case 13: return told.seed;
            case 14: return told.openings.size();
            case 15: return waiting(NONE);
            case 16: return inIceNow();
            case 17: return history.size();
            default: return NONE;
        }
    }

    private int lawLines() {
        return told.law == null ? NONE : told.law.lines.size();
    }

    // ---- what several calls ask ----

    private int outOf(int letter) {
        way.startLetter(letter);
        return way.runOut(LAST_YEAR);
    }

    private int firstBare(int letter) {
        way.startLetter(letter);
        for (int year = way.year + 1; year < YEARS; year++) {
            way.step();
            if (way.isOut()) {
                return NONE;
            }
            if (way.deep == 0) {
                return year;
            }
        }
        return NONE;
    }

    /** How all LETTERS end; it is kept, as most calls ask for it, until a WAY may have changed. */
    private void reckonEnds() {
        if (endsKnown) {
            return;
        }
        ends.reset(told.letters.size());
        for (int letter = 0; letter < ends.size(); letter++) {
            way.startLetter(letter);
            ends.put(letter, OUT, way.runOut(LAST_YEAR));
            ends.put(letter, OUT_DEEP, way.deep);
        }
        endsKnown = true;
    }

    private int outIn(int year, boolean rocks) {
        int many = 0;
        for (int letter = 0; letter < ends.size(); letter++) {
            if (ends.get(letter, OUT) == year && (rocks || !told.isRock(letter))) {
                many++;
            }
        }
        return many;
    }

    /** What came OUT in each of n YEARS from NOW on and in each LANE (no ROCKS), by how all end. */
    private void reckonCame(int n) {
        came.reset(n);
        for (int letter = 0; letter < ends.size(); letter++) {
            int out = ends.get(letter, OUT);
            if (out != NONE && !told.isRock(letter)) {
                int lane = told.letters.get(letter, LANE);
                // a YEAR outside these n has no row, where put does nothing
                came.put(out - told.now, lane, came.get(out - told.now, lane) + 1);
            }
        }
    }

    private boolean isOutBy(int out, int year) {
        return out != NONE && out <= year;
    }

    /** Whether it lies at the lip for somebody to open it: a ROCK is to nobody, so it never waits. */
    private boolean waits(int letter) {
        boolean closed = !told.isRock(letter) && told.letters.get(letter, OPENER) == NONE;
        return closed && isOutBy(ends.get(letter, OUT), told.now);
    }

    /** How many LETTERS wait that are to a PERSON; of all, for NONE. */
    private int waiting(int person) {
        reckonEnds();
        int many = 0;
        for (int letter = 0; letter < told.letters.size(); letter++) {
            boolean asked = person == NONE || told.letters.get(letter, TO) == person;
            if (asked && waits(letter)) {
                many++;
            }
        }
        return many;
    }

    private int inIceNow() {
        reckonEnds();
        int many = 0;
        for (int letter = 0; letter < told.letters.size(); letter++) {
            if (!isOutBy(ends.get(letter, OUT), told.now)) {
                many++;
            }
        }
        return many;
    }

    private int lettersWith(int column, int value) {
        int many = 0;
        for (int letter = 0; letter < told.letters.size(); letter++) {
            if (told.letters.get(letter, column) == value) {
                many++;
            }
        }
        return many;
    }

    private boolean sameLane(int letter, int other) {
        return told.letters.get(letter, LANE) == told.letters.get(other, LANE);
    }

    /** Brings both ways to the first YEAR, from a told one on, in which both are thrown in: that YEAR. */
    private int startBoth(int letter, int other, int least) {
        way.startLetter(letter);
        otherWay.startLetter(other);
        int begin = Math.max(least, Math.max(way.year, otherWay.year));
        way.goOnTo(begin);
        otherWay.goOnTo(begin);
        return begin;
    }

    private void stepBoth() {
        way.step();
        otherWay.step();
    }

    private boolean bothInIce() {
        return !way.isOut() && !otherWay.isOut();
    }

    // ---- what a call refuses ----

    private void need(int index, int size) {
        if (index < 0 || index >= size) {
            throw new IndexOutOfBoundsException("there is no such one");
        }
    }

    private void needLane(int lane) {
        need(lane, told.lanes);
    }

    private void needRow(int row) {
        need(row, told.last);
    }

    private void needPerson(int person) {
        need(person, told.people.size());
    }

    private void needLetter(int letter) {
        need(letter, told.letters.size());
    }

    private void needTable(int table) {
        need(table, told.tables.size());
    }

    private void needYear(int year) {
        if (year < 0 || year > LAST_YEAR) {
            throw new IllegalArgumentException("that year is none");
        }
    }

    private void needFind(int year, int deep) {
        needYear(year);
        if (deep < 0 || deep > MOST_DEEP) {
            throw new IllegalArgumentException("nothing lies so deep");
        }
    }

    private void needUnlike(int one, int other) {
        if (one == other) {
            throw new IllegalArgumentException("both are one");
        }
    }

    private void needThiefYears(int n) {
        if (n < 1 || n > MOST_THIEF_YEARS) {
            throw new IllegalArgumentException("so many years are none");
        }
    }

    /** Rows of numbers; what is read beside them is NONE, what is put beside them is dropped. */
    private static final class Rows {
        private final int most;
        private final int width;
        private final int[] cells;
        private int size = 0;

        Rows(int most, int width) {
            this.most = most;
            this.width = width;
            this.cells = new int[most * width];
        }

        int size() {
            return size;
        }

        boolean isFull() {
            return size >= most;
        }

        int add() {
            if (size >= most) {
                return NONE;
            }
            size++;
            return size - 1;
        }

        void reset(int rows) {
            size = Math.max(0, Math.min(rows, most));
            Arrays.fill(cells, 0);
        }

        int get(int row, int column) {
            if (row < 0 || row >= size || column < 0 || column >= width) {
                return NONE;
            }
            return cells[row * width + column];
        }

        void put(int row, int column, int value) {
            if (row >= 0 && row < size && column >= 0 && column < width) {
                cells[row * width + column] = value;
            }
        }

        void copyFrom(Rows other) {
            size = Math.min(other.size, most);
            System.arraycopy(other.cells, 0, cells, 0, Math.min(other.cells.length, cells.length));
        }
    }

    /** All that is told and done, but for the TAPE, fault() and THE IMAGE. */
    private static final class State {
        int lanes = 3;
        int last = 40;
        int snow = 10;
        int fall = 2;
        int stripe = 3;
        int seed = 1;
        int now = 0;
        int texts = 0;
        Law law = null;
        final Rows sections = new Rows(8, 1 + MOST_LANES);
        final Rows floods = new Rows(8, 3);
        final Rows people = new Rows(MOST_PEOPLE, 3);
        final Rows letters = new Rows(MOST_LETTERS, 7);
        final Rows tables = new Rows(6, MOST_LANES);
        final Rows openings = new Rows(MOST_LETTERS, 3);

        void copyFrom(State other) {
            lanes = other.lanes;
            last = other.last;
            snow = other.snow;
            fall = other.fall;
            stripe = other.stripe;
            seed = other.seed;
            now = other.now;
            texts = other.texts;
            // a Law never changes once it is made, so it may be shared
            law = other.law;
            sections.copyFrom(other.sections);
            floods.copyFrom(other.floods);
            people.copyFrom(other.people);
            letters.copyFrom(other.letters);
            tables.copyFrom(other.tables);
            openings.copyFrom(other.openings);
        }

        /** Whether lanes and last may still be told. */
        boolean isEmpty() {
            return sections.size() + floods.size() + people.size() + letters.size() + tables.size() == 0;
        }

        boolean isRock(int letter) {
            return letters.get(letter, FROM) == NONE;
        }

        int throwIn(int from, int to, int lane, int row) {
            int letter = letters.add();
            letters.put(letter, FROM, from);
            letters.put(letter, TO, to);
            letters.put(letter, LANE, lane);
            letters.put(letter, YEAR, now);
            letters.put(letter, ROW, row);
            letters.put(letter, OPENER, NONE);
            letters.put(letter, OPENED_IN, NONE);
            return letter;
        }

        void openLetter(int letter, int person) {
            letters.put(letter, OPENER, person);
            letters.put(letter, OPENED_IN, now);
            int opening = openings.add();
            openings.put(opening, 0, now);
            openings.put(opening, 1, letter);
            openings.put(opening, 2, person);
        }
    }

    /** The acts that can be undone: what was ahead of each, the oldest overwritten by the newest. */
    private static final class History {
        private final State[] ahead = new State[MOST_ACTS];
        private int next = 0;
        private int size = 0;

        History() {
            for (int i = 0; i < ahead.length; i++) {
                ahead[i] = new State();
            }
        }

        int size() {
            return size;
        }

        /** All places are filled when the history is made. */
        private State at(int place) {
            return place >= 0 && place < ahead.length ? ahead[place] : null;
        }

        void remember(State told) {
            State place = at(next);
            if (place != null) {
                place.copyFrom(told);
            }
            next = (next + 1) % MOST_ACTS;
            size = Math.min(size + 1, MOST_ACTS);
        }

        boolean takeBack(State told) {
            if (size == 0) {
                return false;
            }
            next = (next + MOST_ACTS - 1) % MOST_ACTS;
            size--;
            State before = at(next);
            if (before != null) {
                told.copyFrom(before);
            }
            return true;
        }

        void forget() {
            size = 0;
        }
    }

    /** THE LAW, each condition as a row of codes: what is 0 or more is a number, what is less is one of these. */
    private static final class Law {
        static final int FAST = 0;
        static final int SLOW = 1;
        static final int OPENS = 2;

        // columns of a LINE; its codes go from BEGIN on to ahead of STOP, none for a LINE without a condition
        static final int KIND = 0;
        static final int MORE = 1;
        static final int BEGIN = 2;
        static final int STOP = 3;

        // what a condition may ask; the first eight are parts of sums, and fact i has code FIRST_CODE - i
        static final int FACT_LANE = 0;
        static final int FACT_ROW = 1;
        static final int FACT_YEAR = 2;
        static final int FACT_HEAT = 3;
        static final int FACT_SPEED = 4;
        static final int FACT_PERSON = 5;
        static final int FACT_AGE = 6;
        static final int FACT_DEEP = 7;
        static final int FACT_SIDE = 8;
        static final int FACT_FIRST = 9;
        static final int FACTS = 10;

        // NONE is no code, so that it can tell that there is none
        static final int FIRST_CODE = -2;
        static final int CODE_SIDE = FIRST_CODE - FACT_SIDE;
        static final int CODE_FIRST = FIRST_CODE - FACT_FIRST;
        static final int CODE_OTHER_SUM = -12;
        static final int CODE_LESS = -13;
        static final int CODE_GREATER = -14;
        static final int CODE_NOT = -15;
        static final int CODE_AND = -16;
        static final int CODE_OR = -17;

        final Rows lines = new Rows(12, 4);
        private final int[] codes;

        Law(Rows lines, int[] codes) {
            this.lines.copyFrom(lines);
            this.codes = codes;
        }

        /** How much faster the ice flows by the law (less than 0: slower). */
        int faster(int[] facts) {
            int faster = 0;
            for (int line = 0; line < lines.size(); line++) {
                int kind = lines.get(line, KIND);
                if (kind != OPENS && holds(lines.get(line, BEGIN), lines.get(line, STOP), facts)) {
                    faster += kind == FAST ? lines.get(line, MORE) : -lines.get(line, MORE);
                }
            }
            return faster;
        }

        boolean letsOpen(int[] facts) {
            for (int line = 0; line < lines.size(); line++) {
                boolean opens = lines.get(line, KIND) == OPENS;
                if (opens && holds(lines.get(line, BEGIN), lines.get(line, STOP), facts)) {
                    return true;
                }
            }
            return false;
        }

        private boolean holds(int from, int to, int[] facts) {
            int begin = from > 0 ? from : 0;
            int stop = to < codes.length ? to : codes.length;
            // the truths still to be joined are bits, the newest the lowest: at most some fifteen, as all is six deep
            int truths = begin < stop ? 0 : 1;
            int left = 0;
            int sum = 0;
            for (int i = begin; i < stop; i++) {
                int code = codes[i];
                int fact = FIRST_CODE - code;
                int known = fact >= 0 && fact < facts.length ? facts[fact] : 0;
                if (code >= 0) {
                    sum += code;
                } else if (code > CODE_SIDE) {
                    sum += known;
                } else if (code >= CODE_FIRST) {
                    truths = truths << 1 | known;
                } else if (code == CODE_OTHER_SUM) {
                    left = sum;
                    sum = 0;
                } else if (code == CODE_LESS || code == CODE_GREATER) {
                    boolean truth = code == CODE_LESS ? left < sum : left > sum;
                    truths = truths << 1 | (truth ? 1 : 0);
                    sum = 0;
                } else if (code == CODE_NOT) {
                    truths ^= 1;
                } else if (code == CODE_AND) {
                    truths = truths >> 1 & (truths | ~1);
                } else {
                    truths = truths >> 1 | truths & 1;
                }
            }
            return (truths & 1) == 1;
        }
    }

    /** How hot a YEAR is and how the ice flows, by what is told. */
    private static final class Ice {
        // a FLOW has 5 bits, so 12 of them share a long: all LANES, ROWS and YEARS are few elements
        private static final int FLOWS_A_LONG = 12;
        private static final int FLOW_BITS = 5;
        private static final int UNKNOWN = 31;
        private static final int MOST_FLOW = 30;

        private final State told;
        private final int[] heats = new int[YEARS];
        private final int[] speeds = new int[MOST_LANES * MOST_LAST];
        // by YEAR the FLOODS as bits: most years have none, and need not look at them
        private final int[] floods = new int[YEARS];
        private final int[] facts = new int[Law.FACTS];
        // made once and filled anew, as no call may make a row so long: all calls of a run share one room
        private final long[] flows = new long[MOST_LANES * MOST_LAST * YEARS / FLOWS_A_LONG];
        private boolean flowsForgotten = true;

        Ice(State told) {
            this.told = told;
            renew();
        }

        /** To be called when a text, or going back, changed what is told. */
        void renew() {
            reckonHeats();
            reckonSpeeds();
            reckonFloods();
            flowsForgotten = true;
        }

        private void reckonHeats() {
            int number = told.seed;
            for (int year = 0; year < YEARS; year++) {
                number = 1103515245 * number + 12345;
                heats[year] = (number >>> 16 & 0x7fff) % 10;
            }
        }

        private void reckonSpeeds() {
            Arrays.fill(speeds, 0);
            for (int section = 0; section < told.sections.size(); section++) {
                int from = Math.max(0, told.sections.get(section, 0));
                for (int lane = 0; lane < told.lanes && lane < MOST_LANES; lane++) {
                    int speed = told.sections.get(section, 1 + lane);
                    // the next section, if there is one, writes over what is its own
                    for (int row = from; row < told.last && row < MOST_LAST; row++) {
                        speeds[lane * MOST_LAST + row] = speed;
                    }
                }
            }
        }

        private void reckonFloods() {
            Arrays.fill(floods, 0);
            for (int flood = 0; flood < told.floods.size(); flood++) {
                int year = told.floods.get(flood, FLOOD_YEAR);
                if (year >= 0 && year < YEARS) {
                    floods[year] |= 1 << flood;
                }
            }
        }

        int heatIn(int year) {
            return year >= 0 && year < YEARS ? heats[year] : 0;
        }

        int floodsIn(int year) {
            return year >= 0 && year < YEARS ? floods[year] : 0;
        }

        int speedAt(int lane, int row) {
            int place = lane * MOST_LAST + row;
            return place >= 0 && place < speeds.length ? speeds[place] : 0;
        }

        /** FLOW; under a law it is remembered, as the ways of many throws ask for the same ones. */
        int flowAt(int lane, int row, int year) {
            int speed = speedAt(lane, row);
            if (told.law == null) {
                return speed;
            }
            int cell = (lane * MOST_LAST + row) * YEARS + year;
            int flow = recalledFlow(cell);
            if (flow == UNKNOWN) {
                setFacts(lane, row, year, speed);
                flow = Math.max(0, Math.min(MOST_FLOW, speed + told.law.faster(facts)));
                keepFlow(cell, flow);
            }
            return flow;
        }

        private int recalledFlow(int cell) {
            if (flowsForgotten) {
                Arrays.fill(flows, -1L);
                flowsForgotten = false;
            }
            int place = cell / FLOWS_A_LONG;
            if (cell < 0 || place >= flows.length) {
                return UNKNOWN;
            }
            return (int) (flows[place] >>> cell % FLOWS_A_LONG * FLOW_BITS) & UNKNOWN;
        }

        private void keepFlow(int cell, int flow) {
            int place = cell / FLOWS_A_LONG;
            if (cell >= 0 && place < flows.length) {
                long others = ~((long) UNKNOWN << cell % FLOWS_A_LONG * FLOW_BITS);
                flows[place] = flows[place] & others | (long) flow << cell % FLOWS_A_LONG * FLOW_BITS;
            }
        }

        private void setFacts(int lane, int row, int year, int speed) {
            facts[Law.FACT_LANE] = lane;
            facts[Law.FACT_ROW] = row;
            facts[Law.FACT_YEAR] = year;
            facts[Law.FACT_HEAT] = heatIn(year);
            facts[Law.FACT_SPEED] = speed;
            facts[Law.FACT_PERSON] = 0;
            facts[Law.FACT_AGE] = 0;
            facts[Law.FACT_DEEP] = 0;
            facts[Law.FACT_SIDE] = lane == 0 || lane == told.lanes - 1 ? 1 : 0;
            facts[Law.FACT_FIRST] = lane < told.stripe ? 1 : 0;
        }

        /** OPEN, of a LETTER that is out in a LANE. */
        boolean mayOpen(int person, int lane, int age, int deep) {
            if (told.law == null) {
                return false;
            }
            setFacts(lane, told.last, told.now, 0);
            facts[Law.FACT_PERSON] = person;
            facts[Law.FACT_AGE] = age;
            facts[Law.FACT_DEEP] = deep;
            return told.law.letsOpen(facts);
        }
    }

    /** THE WAY of one thing, gone year by year: where it is and how deep at the begin of a YEAR. */
    private static final class Way {
        private final State told;
        private final Ice ice;
        private int lane = 0;
        private boolean rock = false;
        private int leftOut = NONE;
        int row = 0;
        int deep = 0;
        int year = 0;
        int moved = 0;

        Way(State told, Ice ice) {
            this.told = told;
            this.ice = ice;
        }

        void start(int lane, int row, int year, boolean rock) {
            this.lane = lane;
            this.row = row;
            this.year = year;
            this.rock = rock;
            leftOut = NONE;
            deep = 0;
            moved = 0;
        }

        void startLetter(int letter) {
            Rows letters = told.letters;
            start(letters.get(letter, LANE), letters.get(letter, ROW), letters.get(letter, YEAR),
                    told.isRock(letter));
        }

        void startHut(int person, int year) {
            start(told.people.get(person, HUT_LANE), told.people.get(person, HUT_ROW), year, false);
        }

        /** The way is gone as if that FLOOD were not. */
        void leaveOut(int flood) {
            leftOut = flood;
        }

        boolean isOut() {
            return row >= told.last;
        }

        void step() {
            if (!isOut()) {
                int deeper = deepAfter();
                row += ice.flowAt(lane, row, year);
                takeFloods();
                deep = deeper;
            }
            year++;
        }

        private int deepAfter() {
            if (rock) {
                return 0;
            }
            return row < told.snow ? Math.min(MOST_DEEP, deep + told.fall) : Math.max(0, deep - ice.heatIn(year));
        }

        private void takeFloods() {
            Rows floods = told.floods;
            int bits = ice.floodsIn(year);
            for (int flood = 0; bits != 0 && flood < floods.size(); flood++) {
                boolean comes = flood != leftOut && (bits >> flood & 1) == 1;
                if (comes && row >= floods.get(flood, FLOOD_ROW)) {
                    row += floods.get(flood, FLOOD_MORE);
                    moved += floods.get(flood, FLOOD_MORE);
                }
            }
        }

        void goOnTo(int target) {
            for (int i = year; i < target; i++) {
                step();
            }
        }

        /** Goes on till it is OUT: in which YEAR; NONE, if not by the limit (the limit's YEAR is gone, too). */
        int runOut(int limit) {
            for (int i = year; i <= limit; i++) {
                if (isOut()) {
                    return i;
                }
                step();
            }
            return NONE;
        }
    }

    /** ANSWERS: who has what one PERSON throws in NOW, in which YEARS, and by how many throws. */
    private static final class Answers {
        private final State told;
        private final Way way;
        // by PERSON and YEAR: the fewest throws by which one has it then (0: one has it not)
        private final Rows had = new Rows(MOST_PEOPLE, YEARS);
        // by PERSON and YEAR: when it is OUT if one throws it in then
        private final Rows outs = new Rows(MOST_PEOPLE, YEARS);

        Answers(State told, Way way) {
            this.told = told;
            this.way = way;
        }

        /** Lets it go on until a PERSON has it, or (that one being NONE) to the limit. */
        void spread(int from, int until, int limit) {
            had.reset(told.people.size());
            outs.reset(told.people.size());
            throwAgain(from, told.now, 1, limit);
            // what is had in a YEAR was thrown in ahead of it, so all of that YEAR is known when its turn comes
            for (int year = told.now + 1; year < limit; year++) {
                if (had.get(until, year) > 0) {
                    return;
                }
                for (int person = 0; person < told.people.size(); person++) {
                    int many = had.get(person, year);
                    if (many > 0) {
                        throwAgain(person, year + 1, many + 1, limit);
                    }
                }
            }
        }

        private void throwAgain(int person, int year, int many, int limit) {
            Rows people = told.people;
            int lane = people.get(person, HUT_LANE);
            way.startHut(person, year);
            int out = way.runOut(limit);
            if (out == NONE) {
                return;
            }
            outs.put(person, year, out);
            for (int other = 0; other < people.size(); other++) {
                if (people.get(other, WATCHES) == lane) {
                    int before = had.get(other, out);
                    had.put(other, out, before > 0 ? Math.min(before, many) : many);
                }
            }
        }

        int firstYear(int person) {
            for (int year = 0; year < YEARS; year++) {
                if (had.get(person, year) > 0) {
                    return year;
                }
            }
            return NONE;
        }

        int fewestThrows(int person, int year) {
            return had.get(person, year);
        }

        /** CHAIN, from the end on. */
        int holder(int from, int to, int k) {
            int year = firstYear(to);
            int person = to;
            int many = year == NONE ? NONE : had.get(to, year);
            if (k > many) {
                return NONE;
            }
            for (int i = many; i > k && i > 1; i--) {
                int before = throwAhead(person, year, i - 1);
                person = before / YEARS;
                year = before % YEARS;
            }
            return k == 0 ? from : person;
        }

        /** Who threw it in (times YEARS), and the YEAR in which that one had it by so many throws. */
        private int throwAhead(int person, int out, int many) {
            int lane = told.people.get(person, WATCHES);
            for (int other = 0; other < told.people.size(); other++) {
                if (told.people.get(other, HUT_LANE) == lane) {
                    for (int year = told.now; year < out; year++) {
                        if (had.get(other, year) == many && outs.get(other, year + 1) == out) {
                            return other * YEARS + year;
                        }
                    }
                }
            }
            return 0;
        }
    }

    /** The words, numbers and signs of a text on the TAPE, one by one. */
    private static final class Words {
        // a kind below these is a sign's byte
        static final int END = 256;
        static final int WORD = 257;
        static final int NUMBER = 258;

        private final byte[] text;
        private final int mostDigits;
        private int length = 0;
        private int place = 0;
        private int begin = 0;
        private int wrong = NONE;
        int kind = END;
        int value = NONE;

        Words(byte[] text, int mostDigits) {
            this.text = text;
            this.mostDigits = mostDigits;
        }

        void start(int textLength) {
            length = Math.min(textLength, text.length);
            place = 0;
            wrong = NONE;
            next();
        }

        int wrong() {
            return wrong;
        }

        /** A number of too many digits has the value NONE, which is in no bounds. */
        void next() {
            for (; place < length && text[place] == ' '; place++) {
                continue;
            }
            begin = place;
            value = NONE;
            if (place >= length) {
                kind = END;
            } else if (isSmall(text[place])) {
                kind = WORD;
                for (; place < length && isSmall(text[place]); place++) {
                    continue;
                }
            } else if (isDigit(text[place])) {
                kind = NUMBER;
                value = 0;
                for (; place < length && isDigit(text[place]); place++) {
                    boolean more = place - begin < mostDigits && value != NONE;
                    value = more ? value * 10 + text[place] - '0' : NONE;
                }
            } else {
                kind = text[place] & 255;
                place++;
            }
        }

        private static boolean isSmall(byte sign) {
            return sign >= 'a' && sign <= 'z';
        }

        private static boolean isDigit(byte sign) {
            return sign >= '0' && sign <= '9';
        }

        boolean isWord(String word) {
            if (kind != WORD || place - begin != word.length()) {
                return false;
            }
            for (int i = 0; i < word.length() && begin + i < text.length; i++) {
                if (text[begin + i] != word.charAt(i)) {
                    return false;
                }
            }
            return true;
        }

        boolean takeWord(String word) {
            boolean taken = isWord(word);
            if (taken) {
                next();
            }
            return taken;
        }

        boolean needWord(String word) {
            return takeWord(word) || refuse();
        }

        boolean needSign(char sign) {
            if (kind != sign) {
                return refuse();
            }
            next();
            return true;
        }

        /** The number that must stand here; NONE, and the text is wrong, if there is none of these bounds. */
        int needNumber(int least, int most) {
            int number = value;
            if (kind != NUMBER || number < least || number > most) {
                refuse();
                return NONE;
            }
            next();
            return number;
        }

        boolean refuse() {
            if (wrong == NONE) {
                wrong = begin;
            }
            return false;
        }
    }

    /** What the texts of THE VALLEY and THE LAW have in common: LINE { ; LINE }. */
    private abstract static class TextReader {
        final Words words;
        private final int mostLines;

        TextReader(byte[] text, int mostDigits, int mostLines) {
            this.words = new Words(text, mostDigits);
            this.mostLines = mostLines;
        }

        abstract void clear();

        abstract boolean readLine();

        /** The first wrong byte; NONE without one. */
        int readText(int length) {
            clear();
            words.start(length);
            if (words.kind == Words.END) {
                return NONE;
            }
            for (int line = 0; line < mostLines; line++) {
                if (!readLine() || words.kind == Words.END || !words.needSign(';')) {
                    return words.wrong();
                }
            }
            words.refuse();
            return words.wrong();
        }
    }

    /** Reads a text of THE VALLEY into a draft of the state. */
    private static final class ValleyReader extends TextReader {
        private final State draft;

        ValleyReader(byte[] text, State draft) {
            super(text, 4, 14);
            this.draft = draft;
        }

        void clear() {
        }

        boolean readLine() {
            if (words.isWord("lanes")) {
                return readLanes();
            } else if (words.isWord("last")) {
                return readLast();
            } else if (words.isWord("section")) {
                return readSection();
            } else if (words.isWord("snow")) {
                return readSnow();
            } else if (words.isWord("stripe")) {
                return readStripe();
            } else if (words.isWord("seed")) {
                return readSeed();
            } else if (words.isWord("flood")) {
                return readFlood();
            } else if (words.isWord("person")) {
                return readPerson();
            } else if (words.isWord("rock")) {
                return readRock();
            } else if (words.isWord("table")) {
                return readTable();
            }
            return words.refuse();
        }

        private boolean readLanes() {
            if (!draft.isEmpty()) {
                return words.refuse();
            }
            words.next();
            int lanes = words.needNumber(1, MOST_LANES);
            if (lanes == NONE) {
                return false;
            }
            draft.lanes = lanes;
            draft.stripe = lanes;
            return true;
        }

        private boolean readLast() {
            if (!draft.isEmpty()) {
                return words.refuse();
            }
            words.next();
            int last = words.needNumber(10, MOST_LAST);
            if (last == NONE) {
                return false;
            }
            draft.last = last;
            draft.snow = 10;
            return true;
        }

        private boolean readSection() {
            if (draft.sections.isFull()) {
                return words.refuse();
            }
            words.next();
            int before = draft.sections.size() - 1;
            int least = draft.sections.get(before, 0) + 1;
            int row = words.needNumber(least, before < 0 ? 0 : draft.last - 1);
            if (row == NONE) {
                return false;
            }
            int section = draft.sections.add();
            draft.sections.put(section, 0, row);
            return readSpeeds(draft.sections, section, 1);
        }

        private boolean readSpeeds(Rows rows, int row, int column) {
            for (int lane = 0; lane < draft.lanes; lane++) {
                int speed = words.needNumber(0, MOST_SPEED);
                if (speed == NONE) {
                    return false;
                }
                rows.put(row, column + lane, speed);
            }
            return true;
        }

        private boolean readSnow() {
            words.next();
            int row = readRow();
            if (row == NONE || !words.needWord("fall")) {
                return false;
            }
            int fall = words.needNumber(0, 9);
            if (fall == NONE) {
                return false;
            }
            draft.snow = row;
            draft.fall = fall;
            return true;
        }

        private boolean readStripe() {
            words.next();
            int stripe = words.needNumber(0, draft.lanes);
            if (stripe == NONE) {
                return false;
            }
            draft.stripe = stripe;
            return true;
        }

        private boolean readSeed() {
            words.next();
            int seed = words.needNumber(0, 9999);
            if (seed == NONE) {
                return false;
            }
            draft.seed = seed;
            return true;
        }

        private boolean readFlood() {
            if (draft.floods.isFull()) {
                return words.refuse();
            }
            words.next();
            int year = words.needNumber(draft.now, LAST_YEAR);
            int row = year == NONE ? NONE : readRow();
            int more = row == NONE ? NONE : words.needNumber(1, 20);
            if (more == NONE) {
                return false;
            }
            int flood = draft.floods.add();
            draft.floods.put(flood, FLOOD_YEAR, year);
            draft.floods.put(flood, FLOOD_ROW, row);
            draft.floods.put(flood, FLOOD_MORE, more);
            return true;
        }

        private boolean readPerson() {
            if (draft.people.isFull()) {
                return words.refuse();
            }
            words.next();
            int lane = readLane();
            int row = lane == NONE ? NONE : readRow();
            if (row == NONE) {
                return false;
            }
            int watched = NONE;
            if (words.takeWord("watch")) {
                watched = readLane();
                if (watched == NONE) {
                    return false;
                }
            }
            int person = draft.people.add();
            draft.people.put(person, HUT_LANE, lane);
            draft.people.put(person, HUT_ROW, row);
            draft.people.put(person, WATCHES, watched);
            return true;
        }

        private boolean readRock() {
            if (draft.letters.isFull()) {
                return words.refuse();
            }
            words.next();
            int lane = readLane();
            int row = lane == NONE ? NONE : readRow();
            if (row == NONE) {
                return false;
            }
            draft.throwIn(NONE, NONE, lane, row);
            return true;
        }

        private boolean readTable() {
            if (draft.tables.isFull()) {
                return words.refuse();
            }
            words.next();
            return readSpeeds(draft.tables, draft.tables.add(), 0);
        }

        private int readLane() {
            return words.needNumber(0, draft.lanes - 1);
        }

        private int readRow() {
            return words.needNumber(0, draft.last - 1);
        }
    }

    /** Reads a text of THE LAW into LINES and codes, of which a Law can be made. */
    private static final class LawReader extends TextReader {
        private static final int MOST_DEPTH = 6;

        private final Rows lines = new Rows(12, 4);
        // all codes of a full TAPE find room: the dearest part, or1<1, has one a byte, a LINE's first words have none
        private final int[] codes = new int[MOST_TAPE];
        private int used = 0;

        LawReader(byte[] text) {
            super(text, 3, 12);
        }

        void clear() {
            lines.reset(0);
            used = 0;
        }

        Law makeLaw() {
            return new Law(lines, Arrays.copyOf(codes, used));
        }

        boolean readLine() {
            int kind = readKind();
            if (kind == NONE) {
                return words.refuse();
            }
            words.next();
            int more = kind == Law.OPENS ? 0 : words.needNumber(0, 20);
            if (more == NONE) {
                return false;
            }
            int begin = used;
            if (words.takeWord("if") && !readCondition(0)) {
                return false;
            }
            int line = lines.add();
            lines.put(line, Law.KIND, kind);
            lines.put(line, Law.MORE, more);
            lines.put(line, Law.BEGIN, begin);
            lines.put(line, Law.STOP, used);
            return true;
        }

        private int readKind() {
            if (words.isWord("fast")) {
                return Law.FAST;
            } else if (words.isWord("slow")) {
                return Law.SLOW;
            }
            return words.isWord("open") ? Law.OPENS : NONE;
        }

        private void put(int code) {
            if (used < codes.length) {
                codes[used] = code;
                used++;
            }
        }

        /** C; the depth is how many ( and not it stands within. */
        private boolean readCondition(int depth) {
            for (int all = 0; all < MOST_TAPE; all++) {
                for (int atom = 0; atom < MOST_TAPE; atom++) {
                    if (!readAtom(depth)) {
                        return false;
                    }
                    if (atom > 0) {
                        put(Law.CODE_AND);
                    }
                    if (!words.takeWord("and")) {
                        break;
                    }
                }
                if (all > 0) {
                    put(Law.CODE_OR);
                }
                if (!words.takeWord("or")) {
                    return true;
                }
            }
            return words.refuse();
        }

        private boolean readAtom(int depth) {
            boolean not = words.isWord("not");
            if (not || words.kind == '(') {
                if (depth >= MOST_DEPTH) {
                    return words.refuse();
                }
                words.next();
                boolean read = not ? readAtom(depth + 1) : readCondition(depth + 1) && words.needSign(')');
                if (read && not) {
                    put(Law.CODE_NOT);
                }
                return read;
            }
            if (words.takeWord("side")) {
                put(Law.CODE_SIDE);
                return true;
            }
            if (words.takeWord("first")) {
                put(Law.CODE_FIRST);
                return true;
            }
            if (!readSum()) {
                return false;
            }
            int sign = words.kind;
            if (sign != '<' && sign != '>') {
                return words.refuse();
            }
            words.next();
            put(Law.CODE_OTHER_SUM);
            if (!readSum()) {
                return false;
            }
            put(sign == '<' ? Law.CODE_LESS : Law.CODE_GREATER);
            return true;
        }

        private boolean readSum() {
            for (int part = 0; part < MOST_TAPE; part++) {
                int code = words.kind == Words.NUMBER ? words.value : factCode();
                if (code == NONE) {
                    return words.refuse();
                }
                put(code);
                words.next();
                if (words.kind != '+') {
                    return true;
                }
                words.next();
            }
            return words.refuse();
        }

        /** The code of the fact that is named here; NONE, if none is. */
        private int factCode() {
            if (words.isWord("lane")) {
                return Law.FIRST_CODE - Law.FACT_LANE;
            } else if (words.isWord("row")) {
                return Law.FIRST_CODE - Law.FACT_ROW;
            } else if (words.isWord("year")) {
                return Law.FIRST_CODE - Law.FACT_YEAR;
            } else if (words.isWord("heat")) {
                return Law.FIRST_CODE - Law.FACT_HEAT;
            } else if (words.isWord("speed")) {
                return Law.FIRST_CODE - Law.FACT_SPEED;
            } else if (words.isWord("person")) {
                return Law.FIRST_CODE - Law.FACT_PERSON;
            } else if (words.isWord("age")) {
                return Law.FIRST_CODE - Law.FACT_AGE;
            }
            return words.isWord("deep") ? Law.FIRST_CODE - Law.FACT_DEEP : NONE;
        }
    }
}
