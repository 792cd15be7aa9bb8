import java.util.ArrayDeque;
import java.util.ArrayList;
import java.util.Deque;
import java.util.HashMap;
import java.util.List;
import java.util.Map;
import java.util.NoSuchElementException;
import java.util.TreeMap;
import java.util.TreeSet;

/** The document once more, as slowly and plainly as can be, to compare the class with in random runs. */
final class Model {
    static final int NONE = -1;

    interface Truth {
        boolean of(Map<String, Integer> facts);
    }

    interface Sum {
        int of(Map<String, Integer> facts);
    }

    record Line(String kind, int n, Truth truth) {
    }

    record Thing(String text, int begin) {
        boolean isNumber() {
            return !text.isEmpty() && text.charAt(0) >= '0' && text.charAt(0) <= '9';
        }
    }

    static final class Wrong extends Exception {
        private static final long serialVersionUID = 1L;
        final int at;

        Wrong(int at) {
            this.at = at;
        }
    }

    static final class All implements Cloneable {
        int lanes = 3;
        int last = 40;
        int snow = 10;
        int fall = 2;
        int stripe = 3;
        int seed = 1;
        int now = 0;
        int texts = 0;
        List<Line> law = null;
        List<int[]> sections = new ArrayList<>();
        List<int[]> floods = new ArrayList<>();
        List<int[]> people = new ArrayList<>();
        List<int[]> letters = new ArrayList<>();
        List<int[]> tables = new ArrayList<>();
        List<int[]> log = new ArrayList<>();

        All copy() {
            try {
                All all = (All) clone();
                all.sections = copied(sections);
                all.floods = copied(floods);
                all.people = copied(people);
                all.letters = copied(letters);
                all.tables = copied(tables);
                all.log = copied(log);
                return all;
            } catch (CloneNotSupportedException e) {
                throw new AssertionError(e);
            }
        }

        private static List<int[]> copied(List<int[]> rows) {
            List<int[]> copy = new ArrayList<>();
            for (int[] row : rows) {
                copy.add(row.clone());
            }
            return copy;
        }
    }

    private All all = new All();
    private All image = null;
    private final Deque<All> acts = new ArrayDeque<>();
    private String tape = "";
    private int fault = NONE;

    // ---- texts ----

    private List<Thing> things = List.of();
    private int at;

    private static List<Thing> cut(String text) {
        List<Thing> things = new ArrayList<>();
        int i = 0;
        while (i < text.length()) {
            int begin = i;
            char c = text.charAt(i);
            if (c == ' ') {
                i++;
                continue;
            }
            String kind = c >= 'a' && c <= 'z' ? "az" : c >= '0' && c <= '9' ? "09" : null;
            i++;
            while (kind != null && i < text.length() && text.charAt(i) >= kind.charAt(0)
                    && text.charAt(i) <= kind.charAt(1)) {
                i++;
            }
            things.add(new Thing(text.substring(begin, i), begin));
        }
        things.add(new Thing("", text.length()));
        return things;
    }

    private Thing here() {
        return things.get(at);
    }

    private boolean is(String word) {
        return here().text().equals(word) && !word.isEmpty();
    }

    private boolean ended() {
        return here().text().isEmpty();
    }

    private Wrong wrong() {
        return new Wrong(here().begin());
    }

    private void word(String word) throws Wrong {
        if (!is(word)) {
            throw wrong();
        }
        at++;
    }

    private int number(int digits, int least, int most) throws Wrong {
        if (!here().isNumber() || here().text().length() > digits) {
            throw wrong();
        }
        int n = Integer.parseInt(here().text());
        if (n < least || n > most) {
            throw wrong();
        }
        at++;
        return n;
    }

    int feed(int a, int b, int c, int d, int e) {
        if (tape.length() > 380) {
            return NONE;
        }
        StringBuilder more = new StringBuilder(tape);
        for (int n : new int[] {a, b, c, d, e}) {
            for (int i = 3; i >= 0; i--) {
                more.append((char) (n >> 8 * i & 255));
            }
        }
        tape = more.toString();
        return tape.length();
    }

    boolean end(int n) {
        if (n < 0 || n > tape.length()) {
            return false;
        }
        tape = tape.substring(0, n);
        return true;
    }

    int valley() {
        All before = all;
        all = all.copy();
        things = cut(tape);
        at = 0;
        tape = "";
        fault = NONE;
        try {
            for (int n = 0; !(n == 0 && ended()); n++) {
                if (n == 14) {
                    throw wrong();
                }
                valleyLine();
                if (ended()) {
                    break;
                }
                word(";");
            }
        } catch (Wrong w) {
            fault = w.at;
            all = before;
            throw new IllegalArgumentException();
        }
        if (before.texts == 12) {
            all = before;
            throw new UnsupportedOperationException();
        }
        acts.clear();
        return ++all.texts;
    }

    private void valleyLine() throws Wrong {
        String word = here().text();
        boolean used = all.sections.size() + all.floods.size() + all.people.size() + all.letters.size()
                + all.tables.size() > 0;
        boolean bad = switch (word) {
            case "lanes", "last" -> used;
            case "section" -> all.sections.size() == 8;
            case "flood" -> all.floods.size() == 8;
            case "person" -> all.people.size() == 8;
            case "rock" -> all.letters.size() == 24;
            case "table" -> all.tables.size() == 6;
            case "snow", "stripe", "seed" -> false;
            default -> true;
        };
        if (bad) {
            throw wrong();
        }
        at++;
        int r = all.last - 1;
        int l = all.lanes - 1;
        switch (word) {
            case "lanes" -> {
                all.lanes = number(4, 1, 6);
                all.stripe = all.lanes;
            }
            case "last" -> {
                all.last = number(4, 10, 99);
                all.snow = 10;
            }
            case "section" -> {
                int[] section = new int[7];
                boolean first = all.sections.isEmpty();
                int least = first ? 0 : all.sections.get(all.sections.size() - 1)[6] + 1;
                section[6] = number(4, least, first ? 0 : r);
                for (int i = 0; i < all.lanes; i++) {
                    section[i] = number(4, 0, 20);
                }
                all.sections.add(section);
            }
            case "table" -> {
                int[] table = new int[6];
                for (int i = 0; i < all.lanes; i++) {
                    table[i] = number(4, 0, 20);
                }
                all.tables.add(table);
            }
            case "snow" -> {
                all.snow = number(4, 0, r);
                word("fall");
                all.fall = number(4, 0, 9);
            }
            case "stripe" -> all.stripe = number(4, 0, all.lanes);
            case "seed" -> all.seed = number(4, 0, 9999);
            case "flood" -> all.floods.add(new int[] {number(4, all.now, 299), number(4, 0, r), number(4, 1, 20)});
            case "person" -> {
                int[] person = {number(4, 0, l), number(4, 0, r), NONE};
                if (is("watch")) {
                    at++;
                    person[2] = number(4, 0, l);
                }
                all.people.add(person);
            }
            default -> all.letters.add(new int[] {NONE, NONE, number(4, 0, l), all.now, number(4, 0, r), NONE, NONE});
        }
    }

    int law() {
        things = cut(tape);
        at = 0;
        tape = "";
        fault = NONE;
        List<Line> lines = new ArrayList<>();
        try {
            while (!(lines.isEmpty() && ended())) {
                if (lines.size() == 12) {
                    throw wrong();
                }
                lines.add(lawLine());
                if (ended()) {
                    break;
                }
                word(";");
            }
        } catch (Wrong w) {
            fault = w.at;
            throw new IllegalArgumentException();
        }
        all.law = lines;
        acts.clear();
        return lines.size();
    }

    private Line lawLine() throws Wrong {
        String kind = here().text();
        if (!List.of("fast", "slow", "open").contains(kind)) {
            throw wrong();
        }
        at++;
        int n = kind.equals("open") ? 0 : number(3, 0, 20);
        Truth truth = facts -> true;
        if (is("if")) {
            at++;
            truth = either(0);
        }
        return new Line(kind, n, truth);
    }

    private Truth either(int deep) throws Wrong {
        Truth left = both(deep);
        while (is("or")) {
            at++;
            Truth a = left;
            Truth b = both(deep);
            left = facts -> a.of(facts) || b.of(facts);
        }
        return left;
    }

    private Truth both(int deep) throws Wrong {
        Truth left = atom(deep);
        while (is("and")) {
            at++;
            Truth a = left;
            Truth b = atom(deep);
            left = facts -> a.of(facts) && b.of(facts);
        }
        return left;
    }

    private Truth atom(int deep) throws Wrong {
        String text = here().text();
        if (text.equals("not") || text.equals("(")) {
            if (deep == 6) {
                throw wrong();
            }
            at++;
            if (text.equals("not")) {
                Truth denied = atom(deep + 1);
                return facts -> !denied.of(facts);
            }
            Truth within = either(deep + 1);
            word(")");
            return within;
        }
        if (text.equals("side") || text.equals("first")) {
            at++;
            return facts -> facts.get(text) == 1;
        }
        Sum a = sum();
        boolean less = is("<");
        if (!less && !is(">")) {
            throw wrong();
        }
        at++;
        Sum b = sum();
        return facts -> less ? a.of(facts) < b.of(facts) : a.of(facts) > b.of(facts);
    }

    private Sum sum() throws Wrong {
        List<Sum> parts = new ArrayList<>();
        while (true) {
            String text = here().text();
            if (here().isNumber()) {
                int n = number(3, 0, 999);
                parts.add(facts -> n);
            } else if (List.of("lane", "row", "year", "heat", "speed", "person", "age", "deep").contains(text)) {
                at++;
                parts.add(facts -> facts.get(text));
            } else {
                throw wrong();
            }
            if (!is("+")) {
                return facts -> parts.stream().mapToInt(part -> part.of(facts)).sum();
            }
            at++;
        }
    }

    int fault() {
        return fault;
    }

    // ---- refusing ----

    private static void index(int i, int size) {
        if (i < 0 || i >= size) {
            throw new IndexOutOfBoundsException();
        }
    }

    private static void argument(boolean right) {
        if (!right) {
            throw new IllegalArgumentException();
        }
    }

    private static void year(int y) {
        argument(y >= 0 && y <= 299);
    }

    private static void what(int what, int most) {
        if (what < 0 || what > most) {
            throw new NoSuchElementException();
        }
    }

    // ---- ice ----

    private final Map<Integer, int[]> heats = new HashMap<>();

    int heat(int y) {
        year(y);
        return heats.computeIfAbsent(all.seed, seed -> {
            int[] heat = new int[300];
            int number = seed;
            for (int i = 0; i < 300; i++) {
                number = (int) (1103515245L * number + 12345L);
                heat[i] = (number >> 16 & 32767) % 10;
            }
            return heat;
        })[y];
    }

    int speed(int lane, int row) {
        index(lane, all.lanes);
        index(row, all.last);
        int speed = 0;
        for (int[] section : all.sections) {
            if (section[6] <= row) {
                speed = section[lane];
            }
        }
        return speed;
    }

    private Map<String, Integer> facts(int lane, int row, int y, int speed) {
        Map<String, Integer> facts = new HashMap<>();
        facts.put("lane", lane);
        facts.put("row", row);
        facts.put("year", y);
        facts.put("heat", heat(y));
        facts.put("speed", speed);
        facts.put("person", 0);
        facts.put("age", 0);
        facts.put("deep", 0);
        facts.put("side", lane == 0 || lane == all.lanes - 1 ? 1 : 0);
        facts.put("first", lane < all.stripe ? 1 : 0);
        return facts;
    }

    int flow(int lane, int row, int y) {
        index(lane, all.lanes);
        index(row, all.last);
        year(y);
        int flow = speed(lane, row);
        if (all.law == null) {
            return flow;
        }
        Map<String, Integer> facts = facts(lane, row, y, flow);
        for (Line line : all.law) {
            if (!line.kind().equals("open") && line.truth().of(facts)) {
                flow += line.kind().equals("fast") ? line.n() : -line.n();
            }
        }
        return flow < 0 ? 0 : flow > 30 ? 30 : flow;
    }

    /** A way, whole: by YEAR the ROW and how deep; NONE ahead of the throw. */
    private final class Path {
        final int[] row = new int[300];
        final int[] deep = new int[300];
        int out = NONE;
        int moved = 0;

        Path(int lane, int from, int thrown, boolean rock, int leftOut) {
            int r = from;
            int d = 0;
            for (int y = 0; y < 300; y++) {
                if (y < thrown) {
                    row[y] = NONE;
                    deep[y] = NONE;
                    continue;
                }
                if (out == NONE && r >= all.last) {
                    out = y;
                    r = all.last;
                }
                row[y] = r;
                deep[y] = d;
                if (out != NONE) {
                    continue;
                }
                int begin = r;
                r += flow(lane, begin, y);
                for (int f = 0; f < all.floods.size(); f++) {
                    int[] flood = all.floods.get(f);
                    if (f != leftOut && flood[0] == y && r >= flood[1]) {
                        r += flood[2];
                        moved += flood[2];
                    }
                }
                d = begin < all.snow ? Math.min(99, d + all.fall) : Math.max(0, d - heat(y));
                if (rock) {
                    d = 0;
                }
            }
        }

        boolean inIce(int y) {
            return row[y] != NONE && (out == NONE || y < out);
        }

        int outDeep() {
            return out == NONE ? NONE : deep[out];
        }

        int firstBare(int thrown) {
            for (int y = thrown + 1; y < 300; y++) {
                if (inIce(y) && deep[y] == 0) {
                    return y;
                }
            }
            return NONE;
        }
    }

    private Path path(int letter) {
        return pathWithout(letter, NONE);
    }

    private Path pathWithout(int letter, int flood) {
        int[] l = all.letters.get(letter);
        return new Path(l[2], l[4], l[3], l[0] == NONE, flood);
    }

    private Path thrown(int lane, int row, int y) {
        return new Path(lane, row, y, false, NONE);
    }

    private Path fromHut(int person, int y) {
        int[] p = all.people.get(person);
        return thrown(p[0], p[1], y);
    }

    private boolean waits(int letter) {
        int[] l = all.letters.get(letter);
        if (l[1] == NONE || l[5] != NONE) {
            return false;
        }
        int out = path(letter).out;
        return out != NONE && out <= all.now;
    }

    // ---- people and letters ----

    int person(int person, int what) {
        index(person, all.people.size());
        what(what, 5);
        if (what < 3) {
            return all.people.get(person)[what];
        }
        int n = 0;
        for (int i = 0; i < all.letters.size(); i++) {
            int[] l = all.letters.get(i);
            boolean counts = what == 3 ? l[0] == person : what == 4 ? l[5] == person : l[1] == person && waits(i);
            n += counts ? 1 : 0;
        }
        return n;
    }

    int letter(int letter, int what) {
        index(letter, all.letters.size());
        what(what, 9);
        int[] l = all.letters.get(letter);
        if (what < 7) {
            return l[what];
        }
        Path path = path(letter);
        return what == 7 ? path.out : what == 8 ? path.outDeep() : path.firstBare(l[3]);
    }

    int where(int letter, int y) {
        index(letter, all.letters.size());
        year(y);
        return path(letter).row[y];
    }

    int deep(int letter, int y) {
        index(letter, all.letters.size());
        year(y);
        return path(letter).deep[y];
    }

    private void act() {
        acts.addLast(all.copy());
        if (acts.size() > 12) {
            acts.removeFirst();
        }
    }

    int post(int from, int to) {
        index(from, all.people.size());
        index(to, all.people.size());
        argument(from != to);
        if (all.letters.size() == 24) {
            throw new UnsupportedOperationException();
        }
        act();
        int[] p = all.people.get(from);
        all.letters.add(new int[] {from, to, p[0], all.now, p[1], NONE, NONE});
        return all.letters.size() - 1;
    }

    int watch(int person, int lane) {
        index(person, all.people.size());
        index(lane + 1, all.lanes + 1);
        act();
        int before = all.people.get(person)[2];
        all.people.get(person)[2] = lane;
        return before;
    }

    private void opening(int letter, int person) {
        all.letters.get(letter)[5] = person;
        all.letters.get(letter)[6] = all.now;
        all.log.add(new int[] {all.now, letter, person});
    }

    int open(int letter) {
        index(letter, all.letters.size());
        int[] l = all.letters.get(letter);
        if (!waits(letter)) {
            throw new IllegalStateException();
        }
        act();
        opening(letter, l[1]);
        return all.now - l[3];
    }

    int years(int n) {
        argument(n >= 1 && n <= 50 && all.now + n <= 299);
        act();
        int before = all.log.size();
        for (int i = 0; i < n; i++) {
            all.now++;
            for (int letter = 0; letter < all.letters.size(); letter++) {
                if (waits(letter)) {
                    int by = opener(letter);
                    if (by != NONE) {
                        opening(letter, by);
                    }
                }
            }
        }
        return all.log.size() - before;
    }

    private int opener(int letter) {
        int[] l = all.letters.get(letter);
        if (all.people.get(l[1])[2] == l[2]) {
            return l[1];
        }
        for (int p = 0; p < all.people.size(); p++) {
            if (all.people.get(p)[2] == l[2] && all.law != null) {
                Map<String, Integer> facts = facts(l[2], all.last, all.now, 0);
                facts.put("person", p);
                facts.put("age", all.now - l[3]);
                facts.put("deep", path(letter).outDeep());
                if (all.law.stream().anyMatch(line -> line.kind().equals("open") && line.truth().of(facts))) {
                    return p;
                }
            }
        }
        return NONE;
    }

    // ---- throws ----

    int throwsFor(int lane, int y, int out, int what) {
        index(lane, all.lanes);
        year(y);
        year(out);
        argument(y >= all.now);
        what(what, 2);
        TreeSet<Integer> rows = new TreeSet<>();
        for (int row = 0; row < all.last; row++) {
            if (thrown(lane, row, y).out == out) {
                rows.add(row);
            }
        }
        return what == 0 ? rows.size() : rows.isEmpty() ? NONE : what == 1 ? rows.first() : rows.last();
    }

    int latest(int person, int y) {
        index(person, all.people.size());
        year(y);
        int latest = NONE;
        for (int t = all.now; t < 300; t++) {
            int out = fromHut(person, t).out;
            latest = out != NONE && out <= y ? t : latest;
        }
        return latest;
    }

    int hut(int lane, int n) {
        index(lane, all.lanes);
        argument(n >= 1 && n <= 299);
        for (int row = 0; row < all.last; row++) {
            int out = thrown(lane, row, all.now).out;
            if (out != NONE && out - all.now <= n) {
                return row;
            }
        }
        return NONE;
    }

    int without(int letter, int flood) {
        index(letter, all.letters.size());
        index(flood, all.floods.size());
        return pathWithout(letter, flood).out;
    }

    int moved(int letter) {
        index(letter, all.letters.size());
        return path(letter).moved;
    }

    int lost() {
        int bits = 0;
        for (int i = 0; i < all.letters.size(); i++) {
            bits += path(i).out == NONE ? 1 << i : 0;
        }
        return bits;
    }

    int market(boolean many) {
        TreeMap<Integer, Integer> outs = new TreeMap<>();
        for (int i = 0; i < all.letters.size(); i++) {
            int out = path(i).out;
            if (out != NONE && all.letters.get(i)[0] != NONE) {
                outs.merge(out, 1, Integer::sum);
            }
        }
        int most = outs.values().stream().mapToInt(n -> n).max().orElse(0);
        if (many) {
            return most;
        }
        return outs.entrySet().stream().filter(e -> e.getValue() == most).mapToInt(Map.Entry::getKey).min().orElse(NONE);
    }

    int passes(int letter) {
        index(letter, all.letters.size());
        int n = 0;
        for (int other = 0; other < all.letters.size(); other++) {
            if (other != letter && all.letters.get(other)[2] == all.letters.get(letter)[2]) {
                n += passed(path(letter), path(other), Math.max(all.letters.get(letter)[3], all.letters.get(other)[3]));
            }
        }
        return n;
    }

    private static int passed(Path a, Path b, int first) {
        if (!a.inIce(first) || !b.inIce(first) || a.row[first] >= b.row[first]) {
            return 0;
        }
        for (int y = first + 1; y < 300; y++) {
            if (a.inIce(y) && b.inIce(y) && a.row[y] > b.row[y]) {
                return 1;
            }
        }
        return 0;
    }

    int writers(int lane, int y, int deep) {
        index(lane, all.lanes);
        year(y);
        argument(deep >= 0 && deep <= 99);
        int bits = 0;
        for (int p = 0; p < all.people.size(); p++) {
            bits += writing(p, lane, y, deep) != NONE ? 1 << p : 0;
        }
        return bits;
    }

    int wrote(int person, int lane, int y, int deep) {
        index(person, all.people.size());
        index(lane, all.lanes);
        year(y);
        argument(deep >= 0 && deep <= 99);
        return writing(person, lane, y, deep);
    }

    private int writing(int person, int lane, int y, int deep) {
        int latest = NONE;
        for (int t = 0; t < 300 && all.people.get(person)[0] == lane; t++) {
            Path path = fromHut(person, t);
            latest = path.out == y && path.outDeep() == deep ? t : latest;
        }
        return latest;
    }

    // ---- poles ----

    int table(int table, int lane) {
        index(table, all.tables.size());
        index(lane, all.lanes);
        return all.tables.get(table)[lane];
    }

    boolean apart(int table, int other, int lanes) {
        index(table, all.tables.size());
        index(other, all.tables.size());
        boolean apart = false;
        for (int lane = 0; lane < all.lanes; lane++) {
            apart |= (lanes & 1 << lane) != 0 && all.tables.get(table)[lane] != all.tables.get(other)[lane];
        }
        return apart;
    }

    int poles() {
        for (int size = 0; size <= all.lanes; size++) {
            for (int lanes = 0; lanes < 64; lanes++) {
                if (lanes < 1 << all.lanes && Integer.bitCount(lanes) == size && allApart(lanes)) {
                    return lanes;
                }
            }
        }
        return NONE;
    }

    private boolean allApart(int lanes) {
        boolean apart = true;
        for (int a = 0; a < all.tables.size(); a++) {
            for (int b = 0; b < a; b++) {
                apart &= apart(a, b, lanes);
            }
        }
        return apart;
    }

    int fit() {
        String readings = tape;
        tape = "";
        argument(readings.length() % 2 == 0);
        for (int i = 0; i < readings.length(); i += 2) {
            argument(readings.charAt(i) < all.lanes && readings.charAt(i + 1) <= 20);
        }
        int bits = 0;
        for (int t = 0; t < all.tables.size(); t++) {
            boolean fits = true;
            for (int i = 0; i < readings.length(); i += 2) {
                fits &= all.tables.get(t)[readings.charAt(i)] == readings.charAt(i + 1);
            }
            bits += fits ? 1 << t : 0;
        }
        return bits;
    }

    // ---- answers ----

    /** By the number of throws: who (times 300) and in which YEAR has it by just so many. */
    private List<TreeSet<Integer>> layers(int from) {
        List<TreeSet<Integer>> layers = new ArrayList<>();
        TreeSet<Integer> layer = new TreeSet<>();
        layer.addAll(havers(from, all.now));
        while (!layer.isEmpty()) {
            layers.add(layer);
            TreeSet<Integer> next = new TreeSet<>();
            for (int one : layer) {
                if (one % 300 < 299) {
                    next.addAll(havers(one / 300, one % 300 + 1));
                }
            }
            layer = next;
        }
        return layers;
    }

    private final Map<Integer, TreeSet<Integer>> known = new HashMap<>();

    private TreeSet<Integer> havers(int thrower, int y) {
        return known.computeIfAbsent(thrower * 300 + y, key -> {
            TreeSet<Integer> havers = new TreeSet<>();
            int out = fromHut(thrower, y).out;
            for (int p = 0; p < all.people.size() && out != NONE; p++) {
                if (all.people.get(p)[2] == all.people.get(thrower)[0]) {
                    havers.add(p * 300 + out);
                }
            }
            return havers;
        });
    }

    private int[] soonest(int from, int to) {
        known.clear();
        int[] best = {NONE, NONE};
        List<TreeSet<Integer>> layers = layers(from);
        for (int i = 0; i < layers.size(); i++) {
            for (int one : layers.get(i)) {
                if (one / 300 == to && (best[0] == NONE || one % 300 < best[0])) {
                    best = new int[] {one % 300, i + 1};
                }
            }
        }
        return best;
    }

    int soonest(int from, int to, boolean many) {
        index(from, all.people.size());
        index(to, all.people.size());
        argument(from != to);
        return soonest(from, to)[many ? 1 : 0];
    }

    int chain(int from, int to, int k) {
        index(from, all.people.size());
        index(to, all.people.size());
        argument(from != to && k >= 0);
        int[] best = soonest(from, to);
        if (best[0] == NONE || k > best[1]) {
            return NONE;
        }
        List<TreeSet<Integer>> layers = layers(from);
        int at = to * 300 + best[0];
        for (int throwsLeft = best[1]; throwsLeft > k; throwsLeft--) {
            if (throwsLeft == 1) {
                return from;
            }
            int next = NONE;
            for (int one : layers.get(throwsLeft - 2)) {
                if (next == NONE && one % 300 < 299 && havers(one / 300, one % 300 + 1).contains(at)) {
                    next = one;
                }
            }
            at = next;
        }
        return at / 300;
    }

    int reached(int from, int y) {
        index(from, all.people.size());
        year(y);
        known.clear();
        int bits = 1 << from;
        for (TreeSet<Integer> layer : layers(from)) {
            for (int one : layer) {
                bits |= one % 300 <= y ? 1 << one / 300 : 0;
            }
        }
        return bits;
    }

    // ---- the lip ----

    private int came(int lane, int y) {
        int n = 0;
        for (int i = 0; i < all.letters.size(); i++) {
            int[] l = all.letters.get(i);
            n += l[0] != NONE && l[2] == lane && y <= 299 && path(i).out == y ? 1 : 0;
        }
        return n;
    }

    int thieves(int n, boolean begin) {
        argument(n >= 1 && n <= 30);
        int[] best = new int[all.lanes];
        for (int i = n - 1; i >= 0; i--) {
            int[] next = new int[all.lanes];
            for (int lane = 0; lane < all.lanes; lane++) {
                int most = best[lane];
                most = lane > 0 ? Math.max(most, best[lane - 1]) : most;
                most = lane + 1 < all.lanes ? Math.max(most, best[lane + 1]) : most;
                next[lane] = came(lane, all.now + i) + most;
            }
            best = next;
        }
        int lane = 0;
        for (int i = 0; i < all.lanes; i++) {
            lane = best[i] > best[lane] ? i : lane;
        }
        return begin ? lane : best[lane];
    }

    int watchman(int n, boolean many) {
        argument(n >= 1 && n <= 30);
        int[] sums = new int[all.lanes];
        for (int lane = 0; lane < all.lanes; lane++) {
            for (int i = 0; i < n; i++) {
                sums[lane] += came(lane, all.now + i);
            }
        }
        int best = NONE;
        int least = Integer.MAX_VALUE;
        for (int guarded = 0; guarded < all.lanes; guarded++) {
            int most = 0;
            for (int lane = 0; lane < all.lanes; lane++) {
                most = lane == guarded ? most : Math.max(most, sums[lane]);
            }
            if (most < least) {
                least = most;
                best = guarded;
            }
        }
        return many ? least : best;
    }

    int meeting(int letter, int other) {
        index(letter, all.letters.size());
        index(other, all.letters.size());
        argument(letter != other);
        Path a = path(letter);
        Path b = path(other);
        for (int y = all.now; y < 300 && all.letters.get(letter)[2] == all.letters.get(other)[2]; y++) {
            if (a.inIce(y) && b.inIce(y) && a.row[y] == b.row[y]) {
                return y;
            }
        }
        return NONE;
    }

    int outs(int y) {
        year(y);
        int n = 0;
        for (int i = 0; i < all.letters.size(); i++) {
            n += path(i).out == y ? 1 : 0;
        }
        return n;
    }

    int order(int k) {
        TreeSet<Integer> order = new TreeSet<>();
        for (int i = 0; i < all.letters.size(); i++) {
            int out = path(i).out;
            if (out != NONE) {
                order.add(out * 100 + i);
            }
        }
        return k < 0 || k >= order.size() ? NONE : new ArrayList<>(order).get(k) % 100;
    }

    int streams(int y, boolean second) {
        year(y);
        int n = 0;
        for (int i = 0; i < all.letters.size(); i++) {
            int out = path(i).out;
            n += out != NONE && out <= y && all.letters.get(i)[2] >= all.stripe == second ? 1 : 0;
        }
        return n;
    }

    int range(int lane, int y) {
        index(lane, all.lanes);
        year(y);
        int out = thrown(lane, 0, y).out;
        return out == NONE ? NONE : out - y;
    }

    int swiftest(int row, int y) {
        index(row, all.last);
        year(y);
        int best = NONE;
        int soonest = 300;
        for (int lane = 0; lane < all.lanes; lane++) {
            int out = thrown(lane, row, y).out;
            if (out != NONE && out < soonest) {
                soonest = out;
                best = lane;
            }
        }
        return best;
    }

    int bare(int y) {
        year(y);
        int bits = 0;
        for (int i = 0; i < all.letters.size(); i++) {
            Path path = path(i);
            bits += all.letters.get(i)[3] < y && path.inIce(y) && path.deep[y] == 0 ? 1 << i : 0;
        }
        return bits;
    }

    // ---- back ----

    int log(int k, int what) {
        what(what, 2);
        return k < 0 || k >= all.log.size() ? NONE : all.log.get(k)[what];
    }

    boolean undo() {
        if (acts.isEmpty()) {
            return false;
        }
        all = acts.removeLast();
        return true;
    }

    void image() {
        image = all.copy();
    }

    boolean back() {
        if (image == null) {
            return false;
        }
        all = image.copy();
        acts.clear();
        return true;
    }

    /** What count() answers of what is just told: sizes and the like, 0 to 9. */
    int told(int what) {
        int[] counts = {all.lanes, all.last, all.sections.size(), all.people.size(), all.letters.size(),
            all.floods.size(), all.tables.size(), all.texts, all.law == null ? NONE : all.law.size(), all.now};
        return counts[what];
    }

    int count(int what) {
        if (what < 10) {
            return what < 0 ? NONE : told(what);
        }
        int waiting = 0;
        int inIce = 0;
        int opened = 0;
        for (int i = 0; i < all.letters.size(); i++) {
            waiting += waits(i) ? 1 : 0;
            inIce += path(i).inIce(all.now) ? 1 : 0;
            opened += all.letters.get(i)[5] != NONE ? 1 : 0;
        }
        int[] counts = {all.snow, all.fall, all.stripe, all.seed, opened, waiting, inIce, acts.size()};
        return what >= 10 + counts.length ? NONE : counts[what - 10];
    }
}
