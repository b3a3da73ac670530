import java.util.ArrayDeque;
import java.util.ArrayList;
import java.util.Deque;
import java.util.HashMap;
import java.util.List;
import java.util.Map;
import java.util.Set;
import java.util.function.IntBinaryOperator;

/**
 * The document once more, as plainly as can be and without regard to speed or room: every question is
 * answered by trying all there is. ModelTest holds FaceSenate against it.
 */
public final class Model {
    private static final int NONE = -1;
    private static final Set<String> RESERVED = Set.of(
            "hall", "by", "district", "mood", "member", "for", "face", "stoic", "at", "look", "light", "tooth",
            "of", "draw", "or", "and", "not", "near", "beside", "bright", "news", "step", "row", "column");
    private static final List<String> SEEN =
            List.of("face", "near", "beside", "bright", "stoic", "news", "step", "row", "column");

    // ---- the text

    static final class Fault extends RuntimeException {
        private static final long serialVersionUID = 1;
        final int number;
        final int place;

        Fault(int number, int place) {
            super(number + " at " + place);
            this.number = number;
            this.place = place;
        }
    }

    interface Tree {
        int of(int[] seen);
    }

    record Token(String text, int place) {
        boolean isWord() {
            return !text.isEmpty() && text.charAt(0) >= 'a' && text.charAt(0) <= 'z';
        }

        boolean isNumber() {
            return !text.isEmpty() && text.charAt(0) >= '0' && text.charAt(0) <= '9';
        }
    }

    static final class Senate {
        int columns = 4;
        int rows = 4;
        final List<String> districts = new ArrayList<>();
        final List<Integer> moods = new ArrayList<>();
        final List<String> members = new ArrayList<>();
        final List<Integer> homes = new ArrayList<>();
        final List<Integer> faces = new ArrayList<>();
        final List<Integer> stoics = new ArrayList<>();
        final List<Integer> seats = new ArrayList<>();
        Tree look = seen -> seen[0];
        Tree light = seen -> 5;
        int tooth = 0;
        int ache = 1;
        int draw = 0;
        int units = 0;
    }

    /** A text is cut into TOKENS up to where there is none ("?"), with one ("") at the end. */
    static List<Token> tokens(byte[] bytes, int length) {
        StringBuilder text = new StringBuilder();
        for (int i = 0; i < length; i++) {
            text.append((char) (bytes[i] & 255));
        }
        java.util.regex.Matcher m = java.util.regex.Pattern
                .compile("[ \n]+|([a-z]+)|([0-9]+)([a-z]?)|[;()<>=+*/%-]").matcher(text);
        List<Token> all = new ArrayList<>();
        int at = 0;
        while (at < length) {
            if (!m.find(at) || m.start() != at) {
                all.add(new Token("?", at));
                break;
            }
            boolean longWord = m.group(1) != null && m.group(1).length() > 8;
            boolean badNumber = m.group(2) != null && (m.group(2).length() > 4 || !m.group(3).isEmpty());
            if (longWord || badNumber) {
                all.add(new Token("?", at));
                break;
            }
            if (text.charAt(at) != ' ' && text.charAt(at) != '\n') {
                all.add(new Token(m.group(), at));
            }
            at = m.end();
        }
        all.add(new Token("", length));
        return all;
    }

    static final class Parser {
        final List<Token> tokens;
        final Senate senate = new Senate();
        final Set<String> once = new java.util.HashSet<>();
        int at = 0;
        int unitsInLine = 0;

        Parser(List<Token> tokens) {
            this.tokens = tokens;
        }

        Token peek() {
            return tokens.get(at);
        }

        boolean is(String text) {
            return peek().text().equals(text);
        }

        Fault wrong() {
            return new Fault(is("?") ? 1 : 2, peek().place());
        }

        Token take() {
            return tokens.get(at++);
        }

        void need(String text) {
            if (!is(text)) {
                throw wrong();
            }
            at++;
        }

        int number(int from, int to) {
            if (!peek().isNumber()) {
                throw wrong();
            }
            int n = Integer.parseInt(peek().text());
            if (n < from || n > to) {
                throw new Fault(4, peek().place());
            }
            at++;
            return n;
        }

        Token name() {
            if (!peek().isWord() || RESERVED.contains(peek().text())) {
                throw wrong();
            }
            return take();
        }

        String newName(List<String> told) {
            Token t = name();
            if (told.contains(t.text())) {
                throw new Fault(3, t.place());
            }
            return t.text();
        }

        Senate senate() {
            for (boolean first = true; !is(""); first = false) {
                line(first);
            }
            return senate;
        }

        void line(boolean first) {
            String word = peek().text();
            boolean tooMany = switch (word) {
                case "hall" -> !first;
                case "district" -> senate.districts.size() == 4;
                case "member" -> senate.members.size() == 7;
                case "look", "light", "tooth", "draw" -> !once.add(word);
                default -> true;
            };
            if (tooMany) {
                throw wrong();
            }
            at++;
            switch (word) {
                case "hall" -> {
                    senate.columns = number(1, 4);
                    need("by");
                    senate.rows = number(1, 4);
                }
                case "district" -> {
                    senate.districts.add(newName(senate.districts));
                    need("mood");
                    senate.moods.add(number(0, 9));
                }
                case "member" -> member();
                case "look" -> senate.look = whole();
                case "light" -> senate.light = whole();
                case "tooth" -> {
                    senate.tooth = number(0, 100);
                    need("of");
                    senate.ache = number(1, 9);
                }
                default -> senate.draw = number(0, 999);
            }
            need(";");
        }

        void member() {
            senate.members.add(newName(senate.members));
            need("for");
            Token home = name();
            if (!senate.districts.contains(home.text())) {
                throw new Fault(5, home.place());
            }
            senate.homes.add(senate.districts.indexOf(home.text()));
            need("face");
            senate.faces.add(number(0, 9));
            int stoic = 0;
            if (is("stoic")) {
                at++;
                stoic = number(0, 9);
            }
            senate.stoics.add(stoic);
            int seat = NONE;
            if (is("at")) {
                at++;
                int column = number(0, senate.columns - 1);
                int place = peek().place();
                int row = number(0, senate.rows - 1);
                seat = row * senate.columns + column;
                if (senate.seats.contains(seat)) {
                    throw new Fault(3, place);
                }
            }
            senate.seats.add(seat);
        }

        Tree whole() {
            unitsInLine = 0;
            return either(0);
        }

        Tree either(int within) {
            Tree left = both(within);
            while (is("or")) {
                at++;
                left = two(left, both(within), (a, b) -> a != 0 | b != 0 ? 1 : 0);
            }
            return left;
        }

        Tree both(int within) {
            Tree left = one(within);
            while (is("and")) {
                at++;
                left = two(left, one(within), (a, b) -> a != 0 & b != 0 ? 1 : 0);
            }
            return left;
        }

        Tree one(int within) {
            if (is("not")) {
                if (within > 6) {
                    throw wrong();
                }
                at++;
                Tree part = one(within + 1);
                return seen -> part.of(seen) == 0 ? 1 : 0;
            }
            Tree left = sum(within);
            if (is("<") || is(">") || is("=")) {
                String sign = take().text();
                Tree right = sum(within);
                return two(left, right, (a, b) -> {
                    int order = Integer.compare(a, b);
                    return (sign.equals("<") ? order < 0 : sign.equals(">") ? order > 0 : order == 0) ? 1 : 0;
                });
            }
            return left;
        }

        Tree sum(int within) {
            Tree left = term(within);
            while (is("+") || is("-")) {
                boolean plus = take().text().equals("+");
                left = two(left, term(within), (a, b) -> plus ? a + b : a - b);
            }
            return left;
        }

        Tree term(int within) {
            Tree left = unit(within);
            while (is("*") || is("/") || is("%")) {
                String sign = take().text();
                left = two(left, unit(within), (a, b) -> sign.equals("*") ? a * b
                        : b == 0 ? 0 : (int) (sign.equals("/") ? (long) a / b : (long) a % b));
            }
            return left;
        }

        Tree unit(int within) {
            boolean nested = is("(");
            if (unitsInLine == 30 || nested && within > 6) {
                throw wrong();
            }
            if (nested) {
                count();
                at++;
                Tree inside = either(within + 1);
                need(")");
                return inside;
            }
            if (peek().isNumber()) {
                count();
                int n = Integer.parseInt(take().text());
                return seen -> n;
            }
            int index = SEEN.indexOf(peek().text());
            if (index < 0) {
                throw wrong();
            }
            count();
            at++;
            return seen -> seen[index];
        }

        void count() {
            unitsInLine++;
            senate.units++;
        }

        static Tree two(Tree a, Tree b, IntBinaryOperator how) {
            return seen -> how.applyAsInt(a.of(seen), b.of(seen));
        }
    }

    // ---- what is so

    static final class State {
        int[] faces;
        int[] seats;
        int news;
        int step;
        int seed;

        State copy() {
            State s = new State();
            s.faces = faces.clone();
            s.seats = seats.clone();
            s.news = news;
            s.step = step;
            s.seed = seed;
            return s;
        }
    }

    record Look(int steps, int member, int face, boolean is, int told, int[] untold) {
        boolean countsAt(int k) {
            return told <= k && !(untold[0] != NONE && untold[0] <= k);
        }
    }

    private final byte[] tape = new byte[1600];
    private int tapeLength = 0;
    private Senate senate = new Senate();
    private State now = start();
    private Fault fault = null;
    private Deque<State> undos = new ArrayDeque<>();
    private Deque<State> redos = new ArrayDeque<>();
    private List<Integer> lying = new ArrayList<>();
    private List<Look> told = new ArrayList<>();
    private Map<Integer, State> boxes = new HashMap<>();
    private int time = 0;

    private State start() {
        State s = new State();
        s.faces = senate.faces.stream().mapToInt(Integer::intValue).toArray();
        s.seats = senate.seats.stream().mapToInt(Integer::intValue).toArray();
        s.seed = senate.draw;
        return s;
    }

    private int count() {
        return senate.members.size();
    }

    private boolean isMember(int m) {
        return m >= 0 && m < count();
    }

    private int sitter(State s, int seat) {
        for (int m = 0; m < count(); m++) {
            if (s.seats[m] == seat) {
                return m;
            }
        }
        return NONE;
    }

    private List<Integer> beside(State s, int m) {
        List<Integer> found = new ArrayList<>();
        if (s.seats[m] == NONE) {
            return found;
        }
        int c = s.seats[m] % senate.columns;
        int r = s.seats[m] / senate.columns;
        for (int o = 0; o < count(); o++) {
            if (s.seats[o] == NONE) {
                continue;
            }
            int oc = s.seats[o] % senate.columns;
            int or = s.seats[o] / senate.columns;
            if (oc == c && (or == r - 1 || or == r + 1) || or == r && (oc == c - 1 || oc == c + 1)) {
                found.add(o);
            }
        }
        return found;
    }

    private static int clip(int n) {
        return n < 0 ? 0 : n > 9 ? 9 : n;
    }

    private int bright(int seat, int step) {
        if (seat == NONE) {
            return 0;
        }
        return clip(senate.light.of(new int[] {
            0, 0, 0, 0, 0, 0, step, seat / senate.columns, seat % senate.columns}));
    }

    private State next(State s) {
        State t = s.copy();
        for (int m = 0; m < count(); m++) {
            int near = 0;
            for (int o : beside(s, m)) {
                near += s.faces[o];
            }
            int row = s.seats[m] == NONE ? 0 : s.seats[m] / senate.columns;
            int column = s.seats[m] == NONE ? 0 : s.seats[m] % senate.columns;
            t.faces[m] = clip(senate.look.of(new int[] {s.faces[m], near, beside(s, m).size(),
                bright(s.seats[m], s.step), senate.stoics.get(m), s.news, s.step, row, column}));
        }
        t.step++;
        return t;
    }

    private State after(State s, int n) {
        for (int i = 0; i < n; i++) {
            s = next(s);
        }
        return s;
    }

    private int winces(State s) {
        int bits = 0;
        for (int m = 0; m < count(); m++) {
            s.seed = (137 * s.seed + 71) % 1000;
            if (s.seed % 100 < senate.tooth) {
                s.faces[m] = clip(s.faces[m] - senate.ache);
                bits += 1 << m;
            }
        }
        return bits;
    }

    private static int sum(State s) {
        int sum = 0;
        for (int f : s.faces) {
            sum += f;
        }
        return sum;
    }

    private int off(State s, int d) {
        int by = 0;
        for (int m = 0; m < count(); m++) {
            by += senate.homes.get(m) == d ? s.faces[m] - senate.moods.get(d) : 0;
        }
        return by < 0 ? -by : by;
    }

    private int off(State s) {
        int sum = 0;
        for (int d = 0; d < senate.districts.size(); d++) {
            sum += off(s, d);
        }
        return sum;
    }

    private State withNews(int news) {
        State s = now.copy();
        s.news = news;
        return s;
    }

    private void act() {
        undos.push(now.copy());
        while (undos.size() > 40) {
            undos.removeLast();
        }
        redos.clear();
    }

    // ---- the face

    public int feed(int a, int b, int c, int d, int e) {
        if (tapeLength + 20 > 1600) {
            return NONE;
        }
        for (int n : new int[] {a, b, c, d, e}) {
            tape[tapeLength++] = (byte) (n >>> 24);
            tape[tapeLength++] = (byte) (n >>> 16);
            tape[tapeLength++] = (byte) (n >>> 8);
            tape[tapeLength++] = (byte) n;
        }
        return tapeLength;
    }

    public int end(int n) {
        if (n < 0 || n > tapeLength) {
            return NONE;
        }
        tapeLength = n;
        return n;
    }

    public int senate() {
        try {
            senate = new Parser(tokens(tape, tapeLength)).senate();
            fault = null;
        } catch (Fault f) {
            fault = f;
            return NONE;
        }
        tapeLength = 0;
        now = start();
        undos.clear();
        redos.clear();
        told.clear();
        lying.clear();
        boxes.clear();
        return count();
    }

    public int fault(int what) {
        if (what == 0) {
            return fault == null ? 0 : fault.number;
        }
        return what == 1 && fault != null ? fault.place : NONE;
    }

    public int member(int m, int what) {
        if (!isMember(m)) {
            return -2;
        }
        return switch (what) {
            case 0 -> now.faces[m];
            case 1 -> now.seats[m];
            case 2 -> senate.homes.get(m);
            case 3 -> senate.stoics.get(m);
            case 4 -> beside(now, m).stream().mapToInt(o -> 1 << o).sum();
            case 5 -> beside(now, m).stream().mapToInt(o -> now.faces[o]).sum();
            case 6 -> bright(now.seats[m], now.step);
            default -> -2;
        };
    }

    public int district(int d, int what) {
        if (d < 0 || d >= senate.districts.size()) {
            return NONE;
        }
        int bits = 0;
        int faces = 0;
        for (int m = 0; m < count(); m++) {
            if (senate.homes.get(m) == d) {
                bits += 1 << m;
                faces += now.faces[m];
            }
        }
        return switch (what) {
            case 0 -> senate.moods.get(d);
            case 1 -> bits;
            case 2 -> faces;
            case 3 -> off(now, d);
            default -> NONE;
        };
    }

    public int seat(int seat, int what) {
        if (seat < 0 || seat >= senate.columns * senate.rows || what < 0 || what > 1) {
            return -2;
        }
        return what == 0 ? sitter(now, seat) : bright(seat, now.step);
    }

    public int report() {
        return sum(now);
    }

    public int off() {
        return off(now);
    }

    public int step() {
        if (now.step >= 999) {
            return NONE;
        }
        act();
        now = next(now);
        return winces(now);
    }

    public int news(int news) {
        if (news < 0 || news > 9 || news == now.news) {
            return NONE;
        }
        act();
        int old = now.news;
        now.news = news;
        return old;
    }

    public int sit(int m, int seat) {
        if (!isMember(m) || seat < 0 || seat >= senate.columns * senate.rows || sitter(now, seat) != NONE) {
            return NONE;
        }
        act();
        int old = now.seats[m];
        now.seats[m] = seat;
        return old == NONE ? -2 : old;
    }

    private boolean changeable(int a, int b) {
        return isMember(a) && isMember(b) && a != b && !(now.seats[a] == NONE && now.seats[b] == NONE);
    }

    private static State changed(State s, int a, int b) {
        State t = s.copy();
        t.seats[a] = s.seats[b];
        t.seats[b] = s.seats[a];
        return t;
    }

    public boolean change(int a, int b) {
        if (!changeable(a, b)) {
            return false;
        }
        act();
        now = changed(now, a, b);
        return true;
    }

    public int unseat(int m) {
        if (!isMember(m) || now.seats[m] == NONE) {
            return NONE;
        }
        act();
        int old = now.seats[m];
        now.seats[m] = NONE;
        return old;
    }

    public boolean undo() {
        if (undos.isEmpty()) {
            return false;
        }
        redos.push(now);
        now = undos.pop();
        return true;
    }

    public boolean redo() {
        if (redos.isEmpty()) {
            return false;
        }
        undos.push(now);
        now = redos.pop();
        return true;
    }

    public int stand(int m, int what) {
        if (!isMember(m) || what < 0 || what > 1) {
            return NONE;
        }
        int[] best = null;
        for (int f = 0; f <= 9; f++) {
            State s = now.copy();
            s.faces[m] = f;
            if (best == null || off(s) < best[1]) {
                best = new int[] {f, off(s)};
            }
        }
        return best[what];
    }

    private int facesOf(int set) {
        int sum = 0;
        for (int m = 0; m < count(); m++) {
            sum += (set & 1 << m) != 0 ? now.faces[m] : 0;
        }
        return sum;
    }

    public int sample(int n, int what) {
        if (n < 1 || n > 7 || n > count() || what < 0 || what > 1) {
            return NONE;
        }
        int best = NONE;
        int nearest = Integer.MAX_VALUE;
        for (int set = 0; set < 1 << count(); set++) {
            int far = Math.abs(facesOf(set) * count() - n * sum(now));
            if (Integer.bitCount(set) == n && far < nearest) {
                best = set;
                nearest = far;
            }
        }
        return what == 0 ? best : facesOf(best);
    }

    public int samples(int n) {
        if (n < 1 || n > 7) {
            return NONE;
        }
        int found = 0;
        for (int set = 0; set < 1 << count(); set++) {
            found += Integer.bitCount(set) == n && facesOf(set) * count() == n * sum(now) ? 1 : 0;
        }
        return found;
    }

    private void paths(List<Integer> path, int goal, List<List<Integer>> found) {
        int last = path.get(path.size() - 1);
        if (last == goal) {
            found.add(new ArrayList<>(path));
            return;
        }
        for (int o : beside(now, last)) {
            if (!path.contains(o)) {
                path.add(o);
                paths(path, goal, found);
                path.remove(path.size() - 1);
            }
        }
    }

    public int chain(int a, int b) {
        lying = new ArrayList<>();
        if (!isMember(a) || !isMember(b) || now.seats[a] == NONE || now.seats[b] == NONE) {
            return NONE;
        }
        List<List<Integer>> found = new ArrayList<>();
        paths(new ArrayList<>(List.of(a)), b, found);
        // They are found in the order of their members, so the first of the shortest is the one.
        for (List<Integer> path : found) {
            if (lying.isEmpty() || path.size() < lying.size()) {
                lying = path;
            }
        }
        return lying.size() - 1;
    }

    public int groups() {
        int[] group = new int[count()];
        for (int m = 0; m < count(); m++) {
            group[m] = m;
        }
        for (int round = 0; round < count(); round++) {
            for (int m = 0; m < count(); m++) {
                for (int o : beside(now, m)) {
                    group[m] = Math.min(group[m], group[o]);
                }
            }
        }
        int roots = 0;
        for (int m = 0; m < count(); m++) {
            roots += now.seats[m] != NONE && group[m] == m ? 1 : 0;
        }
        return roots;
    }

    public int place(int m, int what) {
        if (!isMember(m) || what < 0 || what > 1) {
            return NONE;
        }
        int[] best = {NONE, NONE};
        for (int seat = 0; seat < senate.columns * senate.rows; seat++) {
            if (sitter(now, seat) == NONE || now.seats[m] == seat) {
                State s = now.copy();
                s.seats[m] = seat;
                int then = sum(next(s));
                if (then > best[1]) {
                    best = new int[] {seat, then};
                }
            }
        }
        return best[what];
    }

    public int move(int what) {
        int[] best = {NONE, NONE, NONE};
        for (int a = 0; a < count(); a++) {
            for (int b = a + 1; b < count(); b++) {
                if (changeable(a, b)) {
                    int then = sum(next(changed(now, a, b)));
                    if (then > best[2]) {
                        best = new int[] {a, b, then};
                    }
                }
            }
        }
        return what < 0 || what > 2 ? NONE : best[what];
    }

    public int settled() {
        for (int n = 0; n <= 60; n++) {
            if (java.util.Arrays.equals(after(now, n).faces, after(now, n + 1).faces)) {
                return n;
            }
        }
        return NONE;
    }

    public int will(int m, int n) {
        if (!isMember(m) || n < 0 || n > 60) {
            return NONE;
        }
        State s = now;
        for (int i = 0; i < n; i++) {
            s = next(s);
            winces(s);
        }
        return s.faces[m];
    }

    public int ahead(int n) {
        return n < 0 || n > 60 ? NONE : sum(after(now, n));
    }

    public int alike() {
        for (int n = 0; n <= 60 && count() > 0; n++) {
            int[] faces = after(now, n).faces;
            if (java.util.Arrays.stream(faces).allMatch(f -> f == faces[0])) {
                return n;
            }
        }
        return NONE;
    }

    private static int unlike(int[] a, int[] b) {
        int bits = 0;
        for (int i = 0; i < a.length; i++) {
            bits += a[i] != b[i] ? 1 << i : 0;
        }
        return bits;
    }

    public int unrest(int n) {
        if (n < 0 || n > 60) {
            return NONE;
        }
        int sum = 0;
        for (int i = 0; i < n; i++) {
            sum += Integer.bitCount(unlike(after(now, i).faces, after(now, i + 1).faces));
        }
        return sum;
    }

    public int sways(int m, int face, int n) {
        if (!isMember(m) || face < 0 || face > 9 || n < 0 || n > 20) {
            return NONE;
        }
        State s = now.copy();
        s.faces[m] = face;
        return unlike(after(now, n).faces, after(s, n).faces);
    }

    public int brightest() {
        int best = NONE;
        for (int seat = 0; seat < senate.columns * senate.rows; seat++) {
            if (sitter(now, seat) == NONE
                    && (best == NONE || bright(seat, now.step) > bright(best, now.step))) {
                best = seat;
            }
        }
        return best;
    }

    /** The REPORT and the NEWS with which it is come to. */
    private int[] turns(State s, int left, boolean first) {
        if (left == 0) {
            return new int[] {sum(s), NONE};
        }
        int[] best = null;
        for (int news = 0; news <= 9; news++) {
            State t = s.copy();
            t.news = news;
            int then = turns(next(t), left - 1, !first)[0];
            if (best == null || (first ? then > best[0] : then < best[0])) {
                best = new int[] {then, news};
            }
        }
        return best;
    }

    public int parties(int n, int what) {
        return n < 1 || n > 3 || what < 0 || what > 1 ? NONE : turns(now, n, true)[what];
    }

    public int least(int report, int n) {
        for (int news = 0; news <= 9 && n >= 1 && n <= 20; news++) {
            if (sum(after(withNews(news), n)) >= report) {
                return news;
            }
        }
        return NONE;
    }

    public int best(int n) {
        if (n < 0 || n > 20) {
            return NONE;
        }
        int best = 0;
        for (int news = 1; news <= 9; news++) {
            if (off(after(withNews(news), n)) < off(after(withNews(best), n))) {
                best = news;
            }
        }
        return best;
    }

    public int odds(int n, int part) {
        if (n < 0 || n > 4 || n * count() > 4 || part < 0 || part > 1) {
            return NONE;
        }
        java.math.BigInteger up = java.math.BigInteger.valueOf(100 - senate.tooth).pow(n * count());
        java.math.BigInteger low = java.math.BigInteger.valueOf(100).pow(n * count());
        return (part == 0 ? up : low).divide(up.gcd(low)).intValueExact();
    }

    public int moved(int what) {
        if (what < 0 || what > 2) {
            return NONE;
        }
        int bits = 0;
        for (int m = 0; m < count(); m++) {
            int sort = switch (Integer.signum(next(now).faces[m] - now.faces[m])) {
                case 1 -> 0;
                case -1 -> 1;
                default -> 2;
            };
            bits += sort == what ? 1 << m : 0;
        }
        return bits;
    }

    public int key() {
        int[] best = {NONE, Integer.MAX_VALUE};
        for (int m = 0; m < count(); m++) {
            State s = now.copy();
            s.faces[m] = 0;
            if (sum(next(s)) < best[1]) {
                best = new int[] {m, sum(next(s))};
            }
        }
        return best[0];
    }

    public int lies(int i) {
        return i < 0 || i >= lying.size() ? NONE : lying.get(i);
    }

    public int looks(int steps, int m, int face, boolean is) {
        if (steps < 0 || steps > 6 || !isMember(m) || face < 0 || face > 9 || told.size() == 30) {
            return NONE;
        }
        told.add(new Look(steps, m, face, is, time, new int[] {NONE}));
        return told.size() - 1;
    }

    public boolean untell(int look) {
        if (look < 0 || look >= told.size() || told.get(look).untold()[0] != NONE) {
            return false;
        }
        told.get(look).untold()[0] = time;
        return true;
    }

    public int later(int by) {
        if (by < 0 || by > 1000 || time + by > 100000) {
            return NONE;
        }
        time += by;
        return time;
    }

    public int fits(int k) {
        int bits = 0;
        for (int news = 0; news <= 9; news++) {
            boolean all = true;
            for (Look l : told) {
                boolean is = after(withNews(news), l.steps()).faces[l.member()] >= l.face();
                all &= !l.countsAt(k) || is == l.is();
            }
            bits += all ? 1 << news : 0;
        }
        return bits;
    }

    public int ask(int steps, int what, int k) {
        if (steps < 0 || steps > 6 || what < 0 || what > 1 || fits(k) == 0) {
            return NONE;
        }
        int fits = fits(k);
        int[] best = {NONE, NONE};
        for (int m = 0; m < count(); m++) {
            int worst = 0;
            for (int face = 0; face <= 9; face++) {
                int left = 0;
                for (int news = 0; news <= 9; news++) {
                    left += (fits & 1 << news) != 0 && after(withNews(news), steps).faces[m] == face ? 1 : 0;
                }
                worst = Math.max(worst, left);
            }
            if (best[0] == NONE || worst < best[1]) {
                best = new int[] {m, worst};
            }
        }
        return best[what];
    }

    public int image(int box) {
        if (box < 0 || box > 2) {
            return NONE;
        }
        boxes.put(box, now.copy());
        return now.step;
    }

    public int back(int box) {
        if (!boxes.containsKey(box)) {
            return NONE;
        }
        now = boxes.get(box).copy();
        undos.clear();
        redos.clear();
        return now.step;
    }

    public int about(int what) {
        int[] all = {count(), senate.districts.size(), senate.columns, senate.rows, now.news, now.step, now.seed,
            undos.size(), redos.size(), told.size(), time, tapeLength, senate.units, lying.size()};
        return what < 0 || what >= all.length ? NONE : all[what];
    }
}
