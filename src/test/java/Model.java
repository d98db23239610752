import java.util.ArrayList;
import java.util.Arrays;
import java.util.Collections;
import java.util.HashMap;
import java.util.LinkedHashSet;
import java.util.List;
import java.util.Map;
import java.util.Set;

/**
 * The document once more, in the slowest and plainest form: trees for texts, copies of everything for what is
 * undone or gone back to, every row tried for what is the fewest. RandomRunsTest compares the class with it.
 */
final class Model {
    static final class Broken extends RuntimeException {
        private static final long serialVersionUID = 1L;

        Broken() {
            super(null, null, false, false);
        }
    }

    static final class Fault extends RuntimeException {
        private static final long serialVersionUID = 1L;

        final int place;

        Fault(int place) {
            super(null, null, false, false);
            this.place = place;
        }
    }

    /** A SUM, a TEST as a tree; names has what the words stand for. */
    interface Tree {
        long ask(Map<String, Long> names);
    }

    static final class Clause {
        String verb;
        Tree first;
        Tree second;
        Tree test;
        int times = 1;
    }

    static final class State {
        int[] kind = new int[40];
        int[] hard = new int[40];
        int[] water = new int[40];
        boolean[] dug = new boolean[40];
        List<int[]> shafts = new ArrayList<>();     // cell, buckets
        List<int[]> listeners = new ArrayList<>();  // column, ear
        List<int[]> noises = new ArrayList<>();     // column, loud, hushed
        List<int[]> hearsay = new ArrayList<>();    // column, loud
        List<int[]> wells = new ArrayList<>();      // sounds, wet
        int[] terms = {0, 2, 0};
        List<List<Clause>> laws = new ArrayList<>();
        int force = -1;

        State() {
            Arrays.fill(hard, 3);
        }

        State copy() {
            State c = new State();
            c.kind = kind.clone();
            c.hard = hard.clone();
            c.water = water.clone();
            c.dug = dug.clone();
            c.shafts = copy(shafts);
            c.listeners = copy(listeners);
            c.noises = copy(noises);
            c.hearsay = copy(hearsay);
            c.wells = copy(wells);
            c.terms = terms.clone();
            c.laws = new ArrayList<>(laws);
            c.force = force;
            return c;
        }

        private static List<int[]> copy(List<int[]> rows) {
            List<int[]> c = new ArrayList<>();
            for (int[] row : rows) {
                c.add(row.clone());
            }
            return c;
        }
    }

    private State now = new State();
    /** The states ahead of each deed that can be undone, and which deed it was. */
    private List<State> ahead = new ArrayList<>();
    private List<Integer> deeds = new ArrayList<>();
    private final State[] images = new State[2];
    private List<Integer> tape = new ArrayList<>();
    private int fault = -1;
    private int mud;
    private int stopped = -1;
    private State drawn;
    private final Map<Integer, Integer> refused = new HashMap<>();
    private int status;

    // ------------------------------------------------------------------ texts

    private static final class Parser {
        final List<String> tokens = new ArrayList<>();
        final List<Integer> places = new ArrayList<>();
        final boolean orders;
        int i;
        int parts;

        Parser(List<Integer> tape, boolean orders) {
            this.orders = orders;
            StringBuilder text = new StringBuilder();
            for (int b : tape) {
                text.append((char) b);
            }
            java.util.regex.Matcher m = java.util.regex.Pattern.compile("[a-z]+|[0-9]+|[^ ]", java.util.regex.Pattern.DOTALL).matcher(text);
            while (m.find()) {
                tokens.add(m.group());
                places.add(m.start());
            }
            tokens.add("");
            places.add(text.length());
        }

        String look() {
            return tokens.get(i);
        }

        RuntimeException bad() {
            return new Fault(places.get(i));
        }

        boolean is(String token) {
            return look().equals(token);
        }

        void must(String token) {
            if (!is(token)) {
                throw bad();
            }
            i++;
        }

        boolean may(String token) {
            if (is(token)) {
                i++;
                return true;
            }
            return false;
        }

        int number(int least, int most) {
            if (!look().matches("[0-9]+")) {
                throw bad();
            }
            java.math.BigInteger n = new java.math.BigInteger(look());
            if (n.compareTo(java.math.BigInteger.valueOf(least)) < 0 || n.compareTo(java.math.BigInteger.valueOf(most)) > 0) {
                throw bad();
            }
            i++;
            return n.intValue();
        }

        List<Clause> text() {
            List<Clause> clauses = new ArrayList<>();
            do {
                if (clauses.size() == 12) {
                    throw bad();
                }
                clauses.add(orders ? order() : rule());
            } while (may(";"));
            must("");
            return clauses;
        }

        Clause rule() {
            Clause c = new Clause();
            if (!List.of("says", "loses", "digs", "gives", "passes").contains(look())) {
                throw bad();
            }
            c.verb = tokens.get(i++);
            if (!c.verb.equals("passes")) {
                c.first = sum(0);
            }
            if (may("if")) {
                c.test = test(0);
            }
            return c;
        }

        Clause order() {
            Clause c = new Clause();
            if (!List.of("dig", "haul", "hush", "lie").contains(look())) {
                throw bad();
            }
            c.verb = tokens.get(i++);
            c.first = sum(0);
            if (c.verb.equals("dig")) {
                must("by");
                c.second = sum(0);
            }
            if (c.verb.equals("lie")) {
                must("in");
                c.second = sum(0);
            }
            if (may("times")) {
                c.times = number(1, 20);
            }
            if (may("if")) {
                c.test = test(0);
            }
            return c;
        }

        Tree test(int depth) {
            Tree left = both(depth);
            while (may("or")) {
                Tree a = left;
                Tree b = both(depth);
                left = n -> a.ask(n) == 1 ? 1 : b.ask(n);
            }
            return left;
        }

        Tree both(int depth) {
            Tree left = plain(depth);
            while (may("and")) {
                Tree a = left;
                Tree b = plain(depth);
                left = n -> a.ask(n) == 0 ? 0 : b.ask(n);
            }
            return left;
        }

        Tree plain(int depth) {
            if (may("not")) {
                Tree a = plain(depth);
                return n -> 1 - a.ask(n);
            }
            if (is("(")) {
                if (depth == 8) {
                    throw bad();
                }
                i++;
                Tree a = test(depth + 1);
                must(")");
                return a;
            }
            Tree a = sum(depth);
            String op = look();
            if (!List.of("<", ">", "=").contains(op)) {
                throw bad();
            }
            i++;
            Tree b = sum(depth);
            return n -> {
                int c = Long.compare(a.ask(n), b.ask(n));
                return (op.equals("<") ? c < 0 : op.equals(">") ? c > 0 : c == 0) ? 1 : 0;
            };
        }

        Tree sum(int depth) {
            Tree left = term(depth);
            while (is("+") || is("-")) {
                int sign = tokens.get(i++).equals("+") ? 1 : -1;
                Tree a = left;
                Tree b = term(depth);
                left = n -> whole(a.ask(n) + sign * b.ask(n));
            }
            return left;
        }

        Tree term(int depth) {
            Tree left = part(depth);
            while (is("*") || is("/") || is("%")) {
                String op = tokens.get(i++);
                Tree a = left;
                Tree b = part(depth);
                left = n -> {
                    long p = a.ask(n);
                    long q = b.ask(n);
                    if (op.equals("*")) {
                        return whole(p * q);
                    }
                    if (q == 0) {
                        throw new Broken();
                    }
                    long cut = Math.abs(p) / Math.abs(q) * Long.signum(p) * Long.signum(q);
                    return op.equals("/") ? cut : p - cut * q;
                };
            }
            return left;
        }

        static long whole(long value) {
            if (Math.abs(value) > 1000000000L) {
                throw new Broken();
            }
            return value;
        }

        Tree part(int depth) {
            if (is("[")) {
                if (depth == 8) {
                    throw bad();
                }
                i++;
                Tree a = sum(depth + 1);
                must("]");
                return a;
            }
            boolean isNumber = look().matches("[0-9]+");
            List<String> words = orders ? List.of("day", "done", "latest", "at", "buckets", "column")
                : List.of("cell", "column", "depth", "kind", "hard", "water", "shaft", "day", "mood");
            if (parts == 50 || !isNumber && !words.contains(look())) {
                throw bad();
            }
            parts++;
            if (isNumber) {
                long value = number(0, 1000);
                return n -> value;
            }
            String word = tokens.get(i++);
            String name = word;
            if (orders && (word.equals("at") || word.equals("buckets"))) {
                name = word + number(0, 5);
            }
            if (orders && word.equals("column")) {
                name = word + number(0, 4);
            }
            String key = name;
            return n -> n.getOrDefault(key, -1L);
        }
    }

    private List<Clause> read(boolean orders) {
        try {
            List<Clause> text = new Parser(tape, orders).text();
            fault = -1;
            return text;
        } catch (Fault f) {
            fault = f.place;
            return null;
        } finally {
            tape = new ArrayList<>();
        }
    }

    // ------------------------------------------------------------------ laws

    private static Integer tells(State s, int law, String verb, int cell, int shaft, int kind) {
        Integer told = null;
        if (law < 0) {
            return null;
        }
        Map<String, Long> names = new HashMap<>();
        names.put("cell", (long) cell);
        names.put("column", (long) cell % 8);
        names.put("depth", (long) cell / 8);
        names.put("kind", (long) kind);
        names.put("hard", (long) s.hard[cell]);
        names.put("water", (long) s.water[cell]);
        names.put("shaft", (long) shaft);
        names.put("day", (long) s.terms[0]);
        names.put("mood", (long) s.terms[2]);
        for (Clause c : s.laws.get(law)) {
            if (c.verb.equals(verb)) {
                try {
                    if (c.test == null || c.test.ask(names) == 1) {
                        told = c.first == null ? 1 : (int) c.first.ask(names);
                    }
                } catch (Broken b) {
                    continue;
                }
            }
        }
        return told;
    }

    private static int within(Integer told, int without, int least, int most) {
        return told == null ? without : told < least ? least : told > most ? most : told;
    }

    private static int says(State s, int law, int cell, int kind) {
        return within(tells(s, law, "says", cell, -1, kind), 20, 0, 99);
    }

    private static int loses(State s, int law, int cell, int kind) {
        return within(tells(s, law, "loses", cell, -1, kind), 2, 0, 9);
    }

    private static int digs(State s, int shaft, int cell) {
        return within(tells(s, s.force, "digs", cell, shaft, s.kind[cell]), s.hard[cell], 1, 99);
    }

    private static int gives(State s, int shaft, int cell) {
        return Math.min(s.water[cell], within(tells(s, s.force, "gives", cell, shaft, s.kind[cell]), 5, 0, 99));
    }

    private static boolean passes(State s, int shaft, int cell) {
        return s.kind[cell] != 1 || tells(s, s.force, "passes", cell, shaft, s.kind[cell]) != null;
    }

    private static int loudness(State s, int law, int cell, int column, int kind) {
        int steps = Math.abs(cell % 8 - column) + cell / 8 + 1;
        return says(s, law, cell, kind) - steps * loses(s, law, cell, kind);
    }

    private static int noise(State s, int column, int hushedToo) {
        int sum = 0;
        for (int k = 0; k < s.noises.size(); k++) {
            int[] n = s.noises.get(k);
            if (n[2] == 0 && (hushedToo >> k & 1) == 0) {
                int left = n[1] - Math.abs(n[0] - column);
                sum += left > 0 ? left : 0;
            }
        }
        return sum;
    }

    private static boolean hearsCell(State s, int law, int listener, int cell, int hushedToo) {
        int[] l = s.listeners.get(listener);
        return s.kind[cell] == 3 && loudness(s, law, cell, l[0], 3) + l[1] > noise(s, l[0], hushedToo);
    }

    // ------------------------------------------------------------------ deeds

    private int refuse(int by) {
        status = by;
        refused.merge(by, 1, Integer::sum);
        return by;
    }

    private int grant(int told) {
        status = 0;
        return told;
    }

    private int settle(int told) {
        return told < 0 ? refuse(told) : grant(told);
    }

    private static boolean in(int n, int least, int most) {
        return n >= least && n <= most;
    }

    private void clearUndo() {
        ahead.clear();
        deeds.clear();
    }

    private static int way(int cell, int way) {
        int x = cell % 8 + (way == 0 ? -1 : way == 2 ? 1 : 0);
        int z = cell / 8 + (way == 1 ? 1 : 0);
        return in(x, 0, 7) && z < 5 ? 8 * z + x : -1;
    }

    /** Does it in that state: what it tells. */
    private static int doDig(State s, int shaft, int way) {
        if (!in(way, 0, 2)) {
            return -1;
        }
        if (!in(shaft, 0, s.shafts.size() - 1)) {
            return -2;
        }
        int[] sh = s.shafts.get(shaft);
        int to = way(sh[0], way);
        if (s.kind[sh[0]] >= 2 || to < 0 || s.dug[to] || !passes(s, shaft, to)) {
            return -3;
        }
        int days = digs(s, shaft, to);
        if (s.terms[0] + days > 9999) {
            return -3;
        }
        s.terms[0] += days;
        s.dug[to] = true;
        sh[0] = to;
        return to;
    }

    private static int doHaul(State s, int shaft) {
        if (!in(shaft, 0, s.shafts.size() - 1)) {
            return -2;
        }
        int[] sh = s.shafts.get(shaft);
        if (s.kind[sh[0]] != 3 || s.terms[0] == 9999) {
            return -3;
        }
        int given = gives(s, shaft, sh[0]);
        s.water[sh[0]] -= given;
        sh[1] = Math.min(9999, sh[1] + given);
        s.terms[0]++;
        return given;
    }

    private static int doHush(State s, int k) {
        if (!in(k, 0, s.noises.size() - 1)) {
            return -2;
        }
        if (s.noises.get(k)[2] == 1) {
            return -3;
        }
        s.noises.get(k)[2] = 1;
        return noise(s, s.noises.get(k)[0], 0);
    }

    private static int doLie(State s, int k, int column) {
        if (!in(column, 0, 7)) {
            return -1;
        }
        if (!in(k, 0, s.listeners.size() - 1)) {
            return -2;
        }
        int was = s.listeners.get(k)[0];
        s.listeners.get(k)[0] = column;
        return was;
    }

    private int deed(int which, int a, int b) {
        State before = now.copy();
        int told = which == 0 ? doDig(now, a, b) : which == 1 ? doHaul(now, a) : which == 2 ? doHush(now, a) : doLie(now, a, b);
        if (told >= 0) {
            ahead.add(before);
            deeds.add(which);
            if (ahead.size() > 16) {
                ahead.remove(0);
                deeds.remove(0);
            }
        }
        return told;
    }

    // ------------------------------------------------------------------ the face

    int put(int cell, int what, int value) {
        if (!in(cell, 0, 39) || !in(what, 0, 2) || !in(value, what == 1 ? 1 : 0, new int[] {3, 9, 99}[what])) {
            return refuse(-1);
        }
        if (what == 0 && now.dug[cell]) {
            return refuse(-3);
        }
        int[] row = what == 0 ? now.kind : what == 1 ? now.hard : now.water;
        int was = row[cell];
        row[cell] = value;
        clearUndo();
        return grant(was);
    }

    int at(int cell, int what) {
        if (!in(cell, 0, 39) || !in(what, 0, 5)) {
            return -1;
        }
        return new int[] {now.kind[cell], now.hard[cell], now.water[cell], now.dug[cell] ? 1 : 0,
            says(now, now.force, cell, now.kind[cell]), loses(now, now.force, cell, now.kind[cell])}[what];
    }

    int sink(int column) {
        if (!in(column, 0, 7)) {
            return refuse(-1);
        }
        if (now.dug[column] || now.kind[column] == 1) {
            return refuse(-3);
        }
        if (now.shafts.size() == 6) {
            return refuse(-5);
        }
        now.dug[column] = true;
        now.shafts.add(new int[] {column, 0});
        clearUndo();
        return grant(now.shafts.size() - 1);
    }

    int of(int shaft, int what) {
        if (!in(shaft, 0, now.shafts.size() - 1) || !in(what, 0, 4)) {
            return -1;
        }
        int cell = now.shafts.get(shaft)[0];
        switch (what) {
            case 0: return cell;
            case 1: return now.shafts.get(shaft)[1];
            case 2: return now.kind[cell] == 2 ? 1 : 0;
            case 3: return now.kind[cell] == 3 ? 1 : 0;
            default: return now.kind[cell] == 3 ? (int) (vein(cell, 1) / vein(cell, 2)) : 0;
        }
    }

    int listener(int column, int ear) {
        if (!in(column, 0, 7) || !in(ear, 0, 20)) {
            return refuse(-1);
        }
        if (now.listeners.size() == 5) {
            return refuse(-5);
        }
        now.listeners.add(new int[] {column, ear});
        clearUndo();
        return grant(now.listeners.size() - 1);
    }

    int noise(int column, int loud) {
        if (!in(column, 0, 7) || !in(loud, 0, 20)) {
            return refuse(-1);
        }
        if (now.noises.size() == 6) {
            return refuse(-5);
        }
        now.noises.add(new int[] {column, loud, 0});
        clearUndo();
        return grant(now.noises.size() - 1);
    }

    int who(int k, int what) {
        if (!in(what, 0, 4)) {
            return -1;
        }
        List<int[]> rows = what < 2 ? now.listeners : now.noises;
        return in(k, 0, rows.size() - 1) ? rows.get(k)[what < 2 ? what : what - 2] : -1;
    }

    int terms(int what, int value) {
        if (!in(what, 0, 2) || !in(value, 0, new int[] {9999, 10, 9}[what])) {
            return refuse(-1);
        }
        int was = now.terms[what];
        now.terms[what] = value;
        clearUndo();
        return grant(was);
    }

    int feed(int a, int b, int c, int d, int e) {
        if (tape.size() > 380) {
            return -1;
        }
        for (int n : new int[] {a, b, c, d, e}) {
            for (byte by : java.nio.ByteBuffer.allocate(4).putInt(n).array()) {
                tape.add(by & 255);
            }
        }
        return tape.size();
    }

    int end(int n) {
        if (!in(n, 0, tape.size())) {
            return -1;
        }
        tape = new ArrayList<>(tape.subList(0, n));
        return n;
    }

    int row() {
        if (tape.isEmpty()) {
            return refuse(-6);
        }
        int told = 0;
        mud = 0;
        for (int cell = 0; 3 * cell < tape.size(); cell++) {
            boolean good = 3 * cell + 2 < tape.size() && cell < 40 && !now.dug[cell]
                && tape.get(3 * cell) <= 3 && in(tape.get(3 * cell + 1), 1, 9) && tape.get(3 * cell + 2) <= 99;
            if (good) {
                now.kind[cell] = tape.get(3 * cell);
                now.hard[cell] = tape.get(3 * cell + 1);
                now.water[cell] = tape.get(3 * cell + 2);
                told++;
            } else {
                mud++;
            }
        }
        tape.clear();
        clearUndo();
        return grant(told);
    }

    int mud() {
        return mud;
    }

    int law() {
        if (now.laws.size() == 6) {
            tape.clear();
            return refuse(-5);
        }
        List<Clause> text = read(false);
        if (text == null) {
            return refuse(-6);
        }
        now.laws.add(text);
        return grant(now.laws.size() - 1);
    }

    int orders() {
        stopped = -1;
        List<Clause> text = read(true);
        if (text == null) {
            return refuse(-6);
        }
        State before = now.copy();
        List<State> aheadBefore = new ArrayList<>(ahead);
        List<Integer> deedsBefore = new ArrayList<>(deeds);
        long done = 0;
        long latest = -1;
        for (Clause c : text) {
            for (int t = 0; t < c.times; t++) {
                Map<String, Long> names = names(done, latest);
                try {
                    if (c.test != null && c.test.ask(names) != 1) {
                        continue;
                    }
                } catch (Broken b) {
                    continue;
                }
                int which = List.of("dig", "haul", "hush", "lie").indexOf(c.verb);
                int told;
                try {
                    int a = (int) c.first.ask(names);
                    int b = c.second == null ? 0 : (int) c.second.ask(names);
                    told = deed(which, a, b);
                } catch (Broken b) {
                    told = -3;
                }
                if (told < 0) {
                    now = before;
                    ahead = aheadBefore;
                    deeds = deedsBefore;
                    stopped = text.indexOf(c);
                    return refuse(-3);
                }
                done++;
                latest = which < 2 ? told : latest;
            }
        }
        return grant((int) done);
    }

    private Map<String, Long> names(long done, long latest) {
        Map<String, Long> names = new HashMap<>();
        names.put("day", (long) now.terms[0]);
        names.put("done", done);
        names.put("latest", latest);
        for (int k = 0; k < now.shafts.size(); k++) {
            names.put("at" + k, (long) now.shafts.get(k)[0]);
            names.put("buckets" + k, (long) now.shafts.get(k)[1]);
        }
        for (int k = 0; k < now.listeners.size(); k++) {
            names.put("column" + k, (long) now.listeners.get(k)[0]);
        }
        return names;
    }

    int fault() {
        return fault;
    }

    int stopped() {
        return stopped;
    }

    int force(int law) {
        if (!in(law, -1, now.laws.size() - 1)) {
            return refuse(-2);
        }
        int was = now.force;
        now.force = law;
        return grant(was);
    }

    int asks(int shaft, int cell, int what) {
        if (!in(shaft, 0, now.shafts.size() - 1) || !in(cell, 0, 39) || !in(what, 0, 2)) {
            return -1;
        }
        return what == 0 ? digs(now, shaft, cell) : what == 1 ? passes(now, shaft, cell) ? 1 : 0 : gives(now, shaft, cell);
    }

    int loud(int cell, int column) {
        return in(cell, 0, 39) && in(column, 0, 7) ? loudness(now, now.force, cell, column, now.kind[cell]) : -100000;
    }

    int din(int column) {
        return in(column, 0, 7) ? noise(now, column, 0) : -1;
    }

    long hears(int listener) {
        if (!in(listener, 0, now.listeners.size() - 1)) {
            return -1;
        }
        long bits = 0;
        for (int cell = 0; cell < 40; cell++) {
            bits += hearsCell(now, now.force, listener, cell, 0) ? 1L << cell : 0;
        }
        return bits;
    }

    int dig(int shaft, int way) {
        return settle(deed(0, shaft, way));
    }

    int haul(int shaft) {
        return settle(deed(1, shaft, 0));
    }

    int hush(int noise) {
        return settle(deed(2, noise, 0));
    }

    int lie(int listener, int column) {
        return settle(deed(3, listener, column));
    }

    int undo() {
        if (ahead.isEmpty()) {
            return refuse(-3);
        }
        State before = ahead.remove(ahead.size() - 1);
        // what no deed can change is as it is now
        before.hearsay = now.hearsay;
        before.wells = now.wells;
        before.laws = now.laws;
        before.force = now.force;
        now = before;
        return grant(deeds.remove(deeds.size() - 1));
    }

    /** The cells of the quickest way, or null: by relaxing whole rows of cells until none gets better. */
    private static List<Integer> wayDown(State s, int shaft, int cell) {
        if (!in(shaft, 0, s.shafts.size() - 1) || !in(cell, 0, 39)) {
            return null;
        }
        int start = s.shafts.get(shaft)[0];
        if (s.kind[start] >= 2) {
            return null;
        }
        List<List<Integer>> best = new ArrayList<>(Collections.nCopies(40, null));
        int[] days = new int[40];
        best.set(start, new ArrayList<>());
        boolean better = true;
        while (better) {
            better = false;
            for (int from = 0; from < 40; from++) {
                if (best.get(from) == null || from != start && s.kind[from] >= 2) {
                    continue;
                }
                for (int w = 0; w < 3; w++) {
                    int to = way(from, w);
                    if (to < 0 || s.dug[to] || !passes(s, shaft, to)) {
                        continue;
                    }
                    int sum = days[from] + digs(s, shaft, to);
                    List<Integer> row = new ArrayList<>(best.get(from));
                    row.add(to);
                    if (best.get(to) == null || sum < days[to] || sum == days[to] && before(row, best.get(to))) {
                        days[to] = sum;
                        best.set(to, row);
                        better = true;
                    }
                }
            }
        }
        return best.get(cell);
    }

    private static boolean before(List<Integer> a, List<Integer> b) {
        for (int i = 0; i < a.size() && i < b.size(); i++) {
            if (!a.get(i).equals(b.get(i))) {
                return a.get(i) < b.get(i);
            }
        }
        return a.size() < b.size();
    }

    private static int days(State s, int shaft, List<Integer> row) {
        int sum = 0;
        for (int cell : row) {
            sum += digs(s, shaft, cell);
        }
        return sum;
    }

    int down(int shaft, int cell, int what) {
        List<Integer> row = wayDown(now, shaft, cell);
        if (row == null || what < 0) {
            return -1;
        }
        return what == 0 ? days(now, shaft, row) : what == 1 ? row.size() : what - 2 < row.size() ? row.get(what - 2) : -1;
    }

    int gangs(long cells, int what) {
        int shafts = now.shafts.size();
        if (cells < 0 || cells >= 1L << 40 || Long.bitCount(cells) > 6 || !in(what, 0, shafts)) {
            return -1;
        }
        List<Integer> told = new ArrayList<>();
        for (int c = 0; c < 40; c++) {
            if ((cells >> c & 1) == 1) {
                told.add(c);
            }
        }
        int[][] price = new int[shafts][told.size()];
        for (int s = 0; s < shafts; s++) {
            for (int k = 0; k < told.size(); k++) {
                List<Integer> row = wayDown(now, s, told.get(k));
                price[s][k] = row == null ? -1 : days(now, s, row);
            }
        }
        best = null;
        tryGangs(price, told, new int[shafts], 0, 0, 0);
        return best == null ? -1 : what == 0 ? bestDays : best[what - 1];
    }

    private int[] best;
    private int bestDays;

    private void tryGangs(int[][] price, List<Integer> told, int[] row, int s, int used, int sum) {
        if (s == row.length) {
            if (Integer.bitCount(used) == told.size()
                && (best == null || sum < bestDays || sum == bestDays && Arrays.compare(row, best) < 0)) {
                best = row.clone();
                bestDays = sum;
            }
            return;
        }
        row[s] = 100;
        tryGangs(price, told, row, s + 1, used, sum);
        for (int k = 0; k < told.size(); k++) {
            if ((used >> k & 1) == 0 && price[s][k] >= 0) {
                row[s] = told.get(k);
                tryGangs(price, told, row, s + 1, used | 1 << k, sum + price[s][k]);
            }
        }
    }

    int quiet(int listeners, int cell, int what) {
        if (listeners < 0 || listeners >= 1 << now.listeners.size() || !in(cell, 0, 39) || !in(what, 0, 1) || now.kind[cell] != 3) {
            return -1;
        }
        for (int many = 0; many <= now.noises.size(); many++) {
            for (int set = 0; set < 1 << now.noises.size(); set++) {
                boolean good = Integer.bitCount(set) == many;
                for (int k = 0; k < now.noises.size(); k++) {
                    good &= (set >> k & 1) == 0 || now.noises.get(k)[2] == 0;
                }
                for (int l = 0; l < now.listeners.size() && good; l++) {
                    good = (listeners >> l & 1) == 0 || hearsCell(now, now.force, l, cell, set);
                }
                if (good) {
                    return what == 0 ? many : set;
                }
            }
        }
        return -1;
    }

    int heard(int column, int loud) {
        if (!in(column, 0, 7) || !in(loud, 0, 99)) {
            return refuse(-1);
        }
        if (now.hearsay.size() == 8) {
            return refuse(-5);
        }
        now.hearsay.add(new int[] {column, loud});
        return grant(now.hearsay.size());
    }

    int forget() {
        int were = now.hearsay.size() + now.wells.size();
        now.hearsay.clear();
        now.wells.clear();
        return were;
    }

    long hidden() {
        long bits = 0;
        for (int cell = 0; cell < 40; cell++) {
            boolean may = now.kind[cell] != 3 && !now.dug[cell];
            for (int[] h : now.hearsay) {
                may = may && Math.max(0, loudness(now, now.force, cell, h[0], 3)) == h[1];
            }
            bits |= may ? 1L << cell : 0;
        }
        return bits;
    }

    int next(int what) {
        long hidden = hidden();
        if (hidden == 0 || !in(what, 0, 1)) {
            return -1;
        }
        int bestColumn = -1;
        int fewest = 41;
        for (int column = 0; column < 8; column++) {
            Map<Integer, Integer> alike = new HashMap<>();
            for (int cell = 0; cell < 40; cell++) {
                if ((hidden >> cell & 1) == 1) {
                    alike.merge(Math.max(0, loudness(now, now.force, cell, column, 3)), 1, Integer::sum);
                }
            }
            int most = Collections.max(alike.values());
            if (most < fewest) {
                fewest = most;
                bestColumn = column;
            }
        }
        return what == 0 ? bestColumn : fewest;
    }

    int well(int sounds, int wet) {
        if (!in(sounds, 0, 63) || !in(wet, 0, 1)) {
            return refuse(-1);
        }
        if (now.wells.size() == 10) {
            return refuse(-5);
        }
        now.wells.add(new int[] {sounds, wet});
        return grant(now.wells.size());
    }

    int tongue(int what) {
        if (!in(what, 0, 1)) {
            return -1;
        }
        for (int many = 0; many <= 6; many++) {
            for (int set = 0; set < 64; set++) {
                boolean good = Integer.bitCount(set) == many;
                for (int[] w : now.wells) {
                    good &= ((w[0] & set) == set) == (w[1] == 1);
                }
                if (good) {
                    return what == 0 ? many : set;
                }
            }
        }
        return -1;
    }

    long vein(int cell, int what) {
        if (!in(cell, 0, 39) || now.kind[cell] != 3 || !in(what, 0, 2)) {
            return -1;
        }
        Set<Integer> vein = new LinkedHashSet<>();
        flood(cell, vein);
        long bits = 0;
        long water = 0;
        long found = 0;
        for (int c : vein) {
            bits |= 1L << c;
            water += now.water[c];
        }
        for (int[] s : now.shafts) {
            found += vein.contains(s[0]) ? 1 : 0;
        }
        return what == 0 ? bits : what == 1 ? water : found;
    }

    private void flood(int cell, Set<Integer> vein) {
        if (now.kind[cell] != 3 || !vein.add(cell)) {
            return;
        }
        for (int other = 0; other < 40; other++) {
            if (Math.abs(other % 8 - cell % 8) + Math.abs(other / 8 - cell / 8) == 1) {
                flood(other, vein);
            }
        }
    }

    long time(int shaft, int cell, int n) {
        List<Integer> row = wayDown(now, shaft, cell);
        if (row == null || !in(n, 0, 200)) {
            return -1;
        }
        int days = days(now, shaft, row);
        long[] chance = new long[days + 1];
        chance[0] = 1000000000000L;
        for (int day = 0; day < n; day++) {
            long[] then = new long[days + 1];
            for (int k = 0; k <= days; k++) {
                if (k == days) {
                    then[k] += chance[k];
                } else {
                    then[k] += chance[k] * now.terms[1] / 10;
                    then[k + 1] += chance[k] * (10 - now.terms[1]) / 10;
                }
            }
            chance = then;
        }
        return chance[days];
    }

    int compare(int law) {
        if (!in(law, -1, now.laws.size() - 1)) {
            return -1;
        }
        int sum = 0;
        for (int l = 0; l < now.listeners.size(); l++) {
            for (int cell = 0; cell < 40; cell++) {
                sum += hearsCell(now, law, l, cell, 0) ? 1 : 0;
            }
        }
        return sum;
    }

    int seasons(int seed, int n) {
        if (!in(seed, 0, 1000000) || !in(n, 1, 60)) {
            return refuse(-1);
        }
        if (now.shafts.isEmpty()) {
            return refuse(-3);
        }
        State s = now.copy();
        long draw = seed;
        for (int k = 0; k < n; k++) {
            draw = (draw * 1103 + 12345) % 1000003;
            int shaft = (int) (draw % s.shafts.size());
            draw = (draw * 1103 + 12345) % 1000003;
            int way = (int) (draw % 3);
            if (doHaul(s, shaft) < 0 && doDig(s, shaft, way) < 0 && s.terms[0] < 9999) {
                s.terms[0]++;
            }
        }
        drawn = s;
        int came = 0;
        for (int k = 0; k < s.shafts.size(); k++) {
            came += s.shafts.get(k)[1] - now.shafts.get(k)[1];
        }
        return grant(came);
    }

    int drawn(int k, int what) {
        if (drawn == null || !in(what, 0, 2)) {
            return -1;
        }
        return what == 2 ? drawn.terms[0] : in(k, 0, drawn.shafts.size() - 1) ? drawn.shafts.get(k)[what] : -1;
    }

    int image(int k) {
        if (!in(k, 0, 1)) {
            return refuse(-1);
        }
        images[k] = now.copy();
        return grant(0);
    }

    int back(int k) {
        if (!in(k, 0, 1)) {
            return refuse(-1);
        }
        if (images[k] == null) {
            return refuse(-2);
        }
        now = images[k].copy();
        clearUndo();
        return grant(0);
    }

    int count(int what) {
        int dug = 0;
        for (boolean d : now.dug) {
            dug += d ? 1 : 0;
        }
        int[] counts = {now.shafts.size(), now.listeners.size(), now.noises.size(), dug, now.hearsay.size(),
            now.wells.size(), now.laws.size(), ahead.size(), tape.size(), refused.getOrDefault(-1, 0),
            refused.getOrDefault(-2, 0), refused.getOrDefault(-3, 0), refused.getOrDefault(-5, 0),
            refused.getOrDefault(-6, 0), now.force, now.terms[0], now.terms[1], now.terms[2]};
        return in(what, 0, counts.length - 1) ? counts[what] : -1;
    }

    int status() {
        return status;
    }
}
