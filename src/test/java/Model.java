import java.util.ArrayDeque;
import java.util.ArrayList;
import java.util.Arrays;
import java.util.Deque;
import java.util.HashMap;
import java.util.HashSet;
import java.util.List;
import java.util.Map;
import java.util.Set;
import java.util.TreeMap;

/**
 * The document once more, written to be plain and not to be quick: every set is tried, every order,
 * every pairing. It shares nothing with GoatMatches, so that both can be held against each other.
 */
final class Model {
    static final class Fault extends RuntimeException {
        final int which;
        final int place;

        Fault(int which, int place) {
            super("fault " + which + " at " + place, null, false, false);
            this.which = which;
            this.place = place;
        }
    }

    record Token(char sort, String text, int place) { }

    record Flock(String name, int side, int home, int size) { }

    interface Formula {
        int of(State state, int flock, int cell);
    }

    record Sight(int days, int flock, int cell, boolean is, int told) { }

    static final class State {
        int[] at = new int[6];
        boolean[] penned = new boolean[6];
        int[] mate = {-1, -1, -1, -1, -1, -1};
        Map<Set<Integer>, Integer> mixed = new HashMap<>();
        int[] grass = new int[0];
        int[] salt = new int[0];
        int day = 0;
        int seed = 0;

        State copy() {
            State s = new State();
            s.at = at.clone();
            s.penned = penned.clone();
            s.mate = mate.clone();
            s.mixed = new HashMap<>(mixed);
            s.grass = grass.clone();
            s.salt = salt.clone();
            s.day = day;
            s.seed = seed;
            return s;
        }

        int mixedOf(int a, int b) {
            return mixed.getOrDefault(Set.of(a, b), 0);
        }
    }

    private static final Set<String> RESERVED = Set.of("gorge", "by", "green", "grass", "flock", "bride", "groom",
            "at", "size", "wants", "feud", "pull", "rain", "of", "evenings", "draw", "or", "and", "not", "salt",
            "others", "home", "here", "day");

    /** What a text tells. */
    final class Text {
        final String text;
        final List<Token> tokens = new ArrayList<>();
        int next = 0;
        int columns = 4;
        int rows = 4;
        int green = 5;
        final Map<Integer, Integer> grass = new TreeMap<>();
        final List<Flock> flocks = new ArrayList<>();
        final Map<List<Integer>, Integer> wants = new HashMap<>();
        final Set<Set<Integer>> feuds = new HashSet<>();
        Formula pull = null;
        int units = 0;
        int odds = 0;
        int rain = 1;
        int evenings = 9;
        int draw = 0;

        Text(String text) {
            this.text = text;
            split();
            Set<String> before = new HashSet<>();
            while (peek().sort != 'e') {
                String first = peek().text;
                boolean once = Set.of("gorge", "green", "pull", "rain", "evenings", "draw").contains(first);
                boolean many = Set.of("grass", "flock", "wants", "feud").contains(first);
                if (peek().sort != 'w' || !once && !many || once && before.contains(first)
                        || first.equals("gorge") && !before.isEmpty()
                        || first.equals("grass") && grass.size() == 8
                        || first.equals("flock") && flocks.size() == 6
                        || first.equals("feud") && feuds.size() == 15) {
                    throw misplaced();
                }
                before.add(first);
                next++;
                line(first);
                sign(";");
            }
        }

        private void split() {
            int i = 0;
            while (i < text.length()) {
                char c = text.charAt(i);
                int j = i + 1;
                if (c == ' ' || c == '\n') {
                    i++;
                    continue;
                }
                char sort = 'x';
                if (letter(c)) {
                    while (j < text.length() && letter(text.charAt(j))) {
                        j++;
                    }
                    sort = j - i <= 8 ? 'w' : 'x';
                } else if (digit(c)) {
                    while (j < text.length() && digit(text.charAt(j))) {
                        j++;
                    }
                    sort = j - i <= 4 && !(j < text.length() && letter(text.charAt(j))) ? 'n' : 'x';
                } else if (";()<>=+-*/%".indexOf(c) >= 0) {
                    sort = 's';
                }
                tokens.add(new Token(sort, text.substring(i, j), i));
                i = j;
            }
            tokens.add(new Token('e', "", text.length()));
        }

        private boolean letter(char c) {
            return c >= 'a' && c <= 'z';
        }

        private boolean digit(char c) {
            return c >= '0' && c <= '9';
        }

        private Token peek() {
            return tokens.get(next);
        }

        private Fault misplaced() {
            return new Fault(peek().sort == 'x' ? 1 : 2, peek().place);
        }

        private void sign(String text) {
            if (peek().sort != 's' && peek().sort != 'w' || !peek().text.equals(text)) {
                throw misplaced();
            }
            next++;
        }

        private int number(int least, int most) {
            if (peek().sort != 'n') {
                throw misplaced();
            }
            int n = Integer.parseInt(peek().text);
            if (n < least || n > most) {
                throw new Fault(4, peek().place);
            }
            next++;
            return n;
        }

        private String name() {
            if (peek().sort != 'w' || RESERVED.contains(peek().text)) {
                throw misplaced();
            }
            next++;
            return tokens.get(next - 1).text;
        }

        private int known() {
            String name = name();
            for (int i = 0; i < flocks.size(); i++) {
                if (flocks.get(i).name.equals(name)) {
                    return i;
                }
            }
            throw new Fault(5, tokens.get(next - 1).place);
        }

        private void twice(boolean is) {
            if (is) {
                throw new Fault(3, tokens.get(next - 1).place);
            }
        }

        private void line(String first) {
            switch (first) {
                case "gorge" -> {
                    columns = number(2, 5);
                    sign("by");
                    rows = number(2, 5);
                }
                case "green" -> green = number(0, 9);
                case "grass" -> {
                    int column = number(0, columns - 1);
                    int row = number(0, rows - 1);
                    twice(grass.containsKey(row * columns + column));
                    grass.put(row * columns + column, number(0, 9));
                }
                case "flock" -> {
                    String name = name();
                    twice(flocks.stream().anyMatch(f -> f.name.equals(name)));
                    String side = peek().text;
                    if (!side.equals("bride") && !side.equals("groom")) {
                        throw misplaced();
                    }
                    next++;
                    sign("at");
                    int column = number(0, columns - 1);
                    int row = number(0, rows - 1);
                    sign("size");
                    flocks.add(new Flock(name, side.equals("bride") ? 0 : 1, row * columns + column, number(1, 9)));
                }
                case "wants" -> {
                    int a = known();
                    int b = known();
                    twice(flocks.get(a).side == flocks.get(b).side || wants.containsKey(List.of(a, b)));
                    wants.put(List.of(a, b), number(0, 99));
                }
                case "feud" -> {
                    int a = known();
                    int b = known();
                    twice(a == b || feuds.contains(Set.of(a, b)));
                    feuds.add(Set.of(a, b));
                }
                case "pull" -> pull = either(0);
                case "rain" -> {
                    odds = number(0, 100);
                    sign("of");
                    rain = number(1, 9);
                }
                case "evenings" -> evenings = number(1, 20);
                default -> draw = number(0, 999);
            }
        }

        private Formula either(int within) {
            Formula a = both(within);
            while (peek().text.equals("or")) {
                next++;
                Formula x = a;
                Formula b = both(within);
                a = (s, f, c) -> x.of(s, f, c) != 0 | b.of(s, f, c) != 0 ? 1 : 0;
            }
            return a;
        }

        private Formula both(int within) {
            Formula a = one(within);
            while (peek().text.equals("and")) {
                next++;
                Formula x = a;
                Formula b = one(within);
                a = (s, f, c) -> x.of(s, f, c) != 0 & b.of(s, f, c) != 0 ? 1 : 0;
            }
            return a;
        }

        private Formula one(int within) {
            if (peek().text.equals("not")) {
                if (within > 6) {
                    throw misplaced();
                }
                next++;
                Formula a = one(within + 1);
                return (s, f, c) -> a.of(s, f, c) == 0 ? 1 : 0;
            }
            Formula a = sum(within);
            String sign = peek().text;
            if (!sign.equals("<") && !sign.equals(">") && !sign.equals("=")) {
                return a;
            }
            next++;
            Formula b = sum(within);
            return (s, f, c) -> {
                int way = Integer.compare(a.of(s, f, c), b.of(s, f, c));
                return way == "<=>".indexOf(sign) - 1 ? 1 : 0;
            };
        }

        private Formula sum(int within) {
            Formula a = term(within);
            while (peek().text.equals("+") || peek().text.equals("-")) {
                int by = peek().text.equals("+") ? 1 : -1;
                next++;
                Formula x = a;
                Formula b = term(within);
                a = (s, f, c) -> x.of(s, f, c) + by * b.of(s, f, c);
            }
            return a;
        }

        private Formula term(int within) {
            Formula a = unit(within);
            while (peek().sort == 's' && "*/%".contains(peek().text)) {
                char sign = peek().text.charAt(0);
                next++;
                Formula x = a;
                Formula b = unit(within);
                a = (s, f, c) -> {
                    int u = x.of(s, f, c);
                    int v = b.of(s, f, c);
                    if (sign == '*') {
                        return u * v;
                    }
                    return v == 0 ? 0 : sign == '/' ? u / v : u % v;
                };
            }
            return a;
        }

        private Formula unit(int within) {
            String word = peek().text;
            boolean fits = peek().sort == 'n' || word.equals("(") && within <= 6
                    || Set.of("grass", "salt", "others", "home", "here", "day").contains(word);
            if (!fits || units == 30) {
                throw misplaced();
            }
            units++;
            if (peek().sort == 'n') {
                int n = number(0, 9999);
                return (s, f, c) -> n;
            }
            next++;
            switch (word) {
                case "(":
                    Formula inside = either(within + 1);
                    sign(")");
                    return inside;
                case "grass":
                    return (s, f, c) -> s.grass[c];
                case "salt":
                    return (s, f, c) -> s.salt[c];
                case "home":
                    return (s, f, c) -> Math.abs(c % columns - flocks.get(f).home % columns)
                            + Math.abs(c / columns - flocks.get(f).home / columns);
                case "here":
                    return (s, f, c) -> s.at[f] == c ? 1 : 0;
                case "day":
                    return (s, f, c) -> s.day;
                default:
                    return (s, f, c) -> {
                        int n = 0;
                        for (int g = 0; g < flocks.size(); g++) {
                            n += g != f && s.at[g] == c ? 1 : 0;
                        }
                        return n;
                    };
            }
        }
    }

    Text text = new Text("");
    State now = begun();
    final StringBuilder tape = new StringBuilder();
    int fault = 0;
    int place = -1;
    final Deque<State> done = new ArrayDeque<>();
    final Deque<State> undone = new ArrayDeque<>();
    final State[] boxes = new State[3];
    List<Integer> lying = new ArrayList<>();
    final List<Sight> seen = new ArrayList<>();
    final Map<Integer, Integer> untold = new HashMap<>();
    int time = 0;

    private State begun() {
        State s = new State();
        s.grass = new int[text.columns * text.rows];
        s.salt = new int[s.grass.length];
        Arrays.fill(s.grass, text.green);
        text.grass.forEach((cell, much) -> s.grass[cell] = much);
        for (int i = 0; i < flocks(); i++) {
            s.at[i] = text.flocks.get(i).home;
        }
        s.seed = text.draw;
        return s;
    }

    int flocks() {
        return text.flocks.size();
    }

    int cells() {
        return text.columns * text.rows;
    }

    private boolean isFlock(int f) {
        return f >= 0 && f < flocks();
    }

    private boolean isCell(int c) {
        return c >= 0 && c < cells();
    }

    private boolean canMix(int a, int b) {
        return isFlock(a) && isFlock(b) && text.flocks.get(a).side != text.flocks.get(b).side
                && !text.feuds.contains(Set.of(a, b));
    }

    private boolean beside(int c, int d) {
        int across = Math.abs(c % text.columns - d % text.columns);
        int down = Math.abs(c / text.columns - d / text.columns);
        return across + down == 1;
    }

    private int worth(State s, int flock, int cell) {
        return text.pull == null ? s.grass[cell] + 3 * s.salt[cell] : text.pull.of(s, flock, cell);
    }

    private int passDay(State s, int evenings) {
        State was = s.copy();
        for (int f = 0; f < flocks(); f++) {
            if (!s.penned[f]) {
                int best = was.at[f];
                for (int c = 0; c < cells(); c++) {
                    if (beside(was.at[f], c) && worth(was, f, c) > worth(was, f, best)) {
                        best = c;
                    }
                }
                s.at[f] = best;
            }
        }
        for (int f = 0; f < flocks(); f++) {
            s.grass[s.at[f]] -= Math.min(s.grass[s.at[f]], text.flocks.get(f).size);
        }
        for (int c = 0; c < cells(); c++) {
            s.salt[c] -= s.salt[c] > 0 ? 1 : 0;
        }
        for (int a = 0; a < flocks(); a++) {
            for (int b = a + 1; b < flocks(); b++) {
                if (canMix(a, b) && s.at[a] == s.at[b]) {
                    s.mixed.merge(Set.of(a, b), 1, Integer::sum);
                }
            }
        }
        int more = 0;
        for (int a = 0; a < flocks(); a++) {
            for (int b = a + 1; b < flocks(); b++) {
                if (s.mixedOf(a, b) >= evenings && s.mate[a] < 0 && s.mate[b] < 0) {
                    s.mate[a] = b;
                    s.mate[b] = a;
                    more += 2;
                }
            }
        }
        s.seed = (s.seed * 137 + 71) % 1000;
        for (int c = 0; c < cells(); c++) {
            if (s.seed % 100 < text.odds) {
                s.grass[c] = Math.min(9, s.grass[c] + text.rain);
            }
        }
        s.day++;
        return more;
    }

    private State behind(State from, int days, int evenings) {
        State s = from.copy();
        for (int i = 0; i < days; i++) {
            passDay(s, evenings);
        }
        return s;
    }

    private State behind(int days) {
        return behind(now, days, text.evenings);
    }

    private void act() {
        done.addLast(now.copy());
        if (done.size() > 40) {
            done.removeFirst();
        }
        undone.clear();
    }

    int feed(int a, int b, int c, int d, int e) {
        if (tape.length() + 20 > 1600) {
            return -1;
        }
        for (int n : new int[] {a, b, c, d, e}) {
            for (int i = 3; i >= 0; i--) {
                tape.append((char) (n >>> 8 * i & 255));
            }
        }
        return tape.length();
    }

    int end(int n) {
        if (n < 0 || n > tape.length()) {
            return -1;
        }
        tape.setLength(n);
        return n;
    }

    int gorge() {
        String read = tape.toString();
        tape.setLength(0);
        try {
            text = new Text(read);
        } catch (Fault f) {
            fault = f.which;
            place = f.place;
            return -1;
        }
        fault = 0;
        place = -1;
        now = begun();
        done.clear();
        undone.clear();
        Arrays.fill(boxes, null);
        lying = new ArrayList<>();
        seen.clear();
        untold.clear();
        return flocks();
    }

    int fault(int what) {
        return what == 0 ? fault : what == 1 ? place : -1;
    }

    int flock(int f, int what) {
        if (!isFlock(f) || what < 0 || what > 5) {
            return -2;
        }
        Flock told = text.flocks.get(f);
        return new int[] {now.at[f], told.side, told.size, now.penned[f] ? 1 : 0, now.mate[f], told.home}[what];
    }

    int ground(int c, int what) {
        if (!isCell(c) || what < 0 || what > 2) {
            return -1;
        }
        int there = 0;
        for (int f = 0; f < flocks(); f++) {
            there |= now.at[f] == c ? 1 << f : 0;
        }
        return new int[] {now.grass[c], now.salt[c], there}[what];
    }

    int pull(int f, int c) {
        return isFlock(f) && isCell(c) ? worth(now, f, c) : -1000000;
    }

    int mixed(int a, int b) {
        return canMix(a, b) ? now.mixedOf(a, b) : -1;
    }

    int wants(int a, int b) {
        return isFlock(a) && isFlock(b) ? text.wants.getOrDefault(List.of(a, b), -1) : -2;
    }

    int grass() {
        return Arrays.stream(now.grass).sum();
    }

    int matched() {
        return (int) Arrays.stream(now.mate).filter(m -> m >= 0).count();
    }

    int salt(int c) {
        if (!isCell(c)) {
            return -1;
        }
        act();
        int was = now.salt[c];
        now.salt[c] = 9;
        return was;
    }

    int pen(int f) {
        if (!isFlock(f)) {
            return -1;
        }
        act();
        now.penned[f] = !now.penned[f];
        return now.penned[f] ? 1 : 0;
    }

    int drive(int f, int c) {
        if (!isFlock(f) || !isCell(c) || now.penned[f] || !beside(now.at[f], c)) {
            return -1;
        }
        act();
        int was = now.at[f];
        now.at[f] = c;
        return was;
    }

    int breaks(int f) {
        if (!isFlock(f) || now.mate[f] < 0) {
            return -1;
        }
        act();
        int other = now.mate[f];
        now.mate[f] = -1;
        now.mate[other] = -1;
        now.mixed.remove(Set.of(f, other));
        return other;
    }

    int day() {
        if (now.day == 999) {
            return -1;
        }
        act();
        return passDay(now, text.evenings);
    }

    boolean undo() {
        if (done.isEmpty()) {
            return false;
        }
        undone.addLast(now);
        now = done.removeLast();
        return true;
    }

    boolean redo() {
        if (undone.isEmpty()) {
            return false;
        }
        done.addLast(now);
        now = undone.removeLast();
        return true;
    }

    int will(int f, int n) {
        return isFlock(f) && n >= 0 && n <= 60 ? behind(n).at[f] : -1;
    }

    int mixes(int a, int b, int n) {
        return canMix(a, b) && n >= 0 && n <= 60 ? behind(n).mixedOf(a, b) - now.mixedOf(a, b) : -1;
    }

    int weds(int f) {
        for (int n = 0; n <= 60 && isFlock(f); n++) {
            if (behind(n).mate[f] >= 0) {
                return n;
            }
        }
        return -1;
    }

    private int mixesIf(State from, int a, int b, int days) {
        return behind(from, days, text.evenings).mixedOf(a, b) - now.mixedOf(a, b);
    }

    /** Every set of so many bits, the fewest first, then the least. */
    private static List<Integer> sets(int bits, int most) {
        List<Integer> all = new ArrayList<>();
        for (int size = 0; size <= most; size++) {
            for (int set = 0; set < 1 << bits; set++) {
                if (Integer.bitCount(set) == size) {
                    all.add(set);
                }
            }
        }
        return all;
    }

    private static final Map<Integer, List<Integer>> SALTED = new HashMap<>();

    int trick(int a, int b, int evenings, int days, int what) {
        if (!canMix(a, b) || evenings < 1 || evenings > 9 || days < 1 || days > 20 || what < 0 || what > 1) {
            return -1;
        }
        for (int set : SALTED.computeIfAbsent(cells(), n -> sets(n, 3))) {
            State s = now.copy();
            boolean fits = true;
            for (int c = 0; c < cells(); c++) {
                if ((set & 1 << c) != 0) {
                    fits &= s.salt[c] == 0;
                    s.salt[c] = 9;
                }
            }
            if (fits && mixesIf(s, a, b, days) >= evenings) {
                return what == 0 ? Integer.bitCount(set) : set;
            }
        }
        return -1;
    }

    int hold(int a, int b, int days, int what) {
        if (!canMix(a, b) || days < 1 || days > 20 || what < 0 || what > 1) {
            return -1;
        }
        for (int set : sets(flocks(), 6)) {
            State s = now.copy();
            boolean fits = true;
            for (int f = 0; f < flocks(); f++) {
                if ((set & 1 << f) != 0) {
                    fits &= !s.penned[f];
                    s.penned[f] = true;
                }
            }
            if (fits && mixesIf(s, a, b, days) == 0) {
                return what == 0 ? Integer.bitCount(set) : set;
            }
        }
        return -1;
    }

    int lead(int a, int b, int days, int what) {
        if (!canMix(a, b) || days < 1 || days > 20 || what < 0 || what > 1 || now.penned[a]) {
            return -1;
        }
        int best = now.at[a];
        int most = mixesIf(now, a, b, days);
        for (int c = 0; c < cells(); c++) {
            if (beside(now.at[a], c)) {
                State s = now.copy();
                s.at[a] = c;
                if (mixesIf(s, a, b, days) > most) {
                    most = mixesIf(s, a, b, days);
                    best = c;
                }
            }
        }
        return what == 0 ? best : most;
    }

    int bachelors(int n) {
        if (n < 0 || n > 60) {
            return -1;
        }
        State s = behind(n);
        int set = 0;
        for (int f = 0; f < flocks(); f++) {
            set |= s.mate[f] < 0 ? 1 << f : 0;
        }
        return set;
    }

    int law(int n) {
        if (n < 1 || n > 20) {
            return -100;
        }
        long then = Arrays.stream(behind(now, 60, n).mate).filter(m -> m >= 0).count();
        long as = Arrays.stream(behind(60).mate).filter(m -> m >= 0).count();
        return (int) (then - as);
    }

    private boolean could(int a, int b) {
        return canMix(a, b) && text.wants.containsKey(List.of(a, b)) && text.wants.containsKey(List.of(b, a));
    }

    private int has(int[] with, int f) {
        return with[f] < 0 ? 0 : text.wants.get(List.of(f, with[f]));
    }

    /** Every row of numbers, one a flock, that is a pairing and calm, in their order. */
    private List<int[]> calmOnes() {
        List<int[]> all = new ArrayList<>();
        int n = flocks();
        int[] with = new int[n];
        Arrays.fill(with, -1);
        while (true) {
            boolean fits = true;
            for (int f = 0; f < n; f++) {
                fits &= with[f] < 0 || with[with[f]] == f && could(f, with[f]);
            }
            for (int a = 0; a < n && fits; a++) {
                for (int b = 0; b < n; b++) {
                    fits &= !could(a, b) || with[a] == b || text.wants.get(List.of(a, b)) <= has(with, a)
                            || text.wants.get(List.of(b, a)) <= has(with, b);
                }
            }
            if (fits) {
                all.add(with.clone());
            }
            int i = n - 1;
            while (i >= 0 && with[i] == n - 1) {
                with[i] = -1;
                i--;
            }
            if (i < 0) {
                return all;
            }
            with[i]++;
        }
    }

    private void lay(int[] row) {
        lying = new ArrayList<>();
        for (int n : row) {
            lying.add(n);
        }
    }

    int calm() {
        List<int[]> all = calmOnes();
        lay(all.get(0));
        return all.size();
    }

    int dear() {
        int most = -1;
        int[] best = null;
        for (int[] with : calmOnes()) {
            int sum = 0;
            for (int f = 0; f < flocks(); f++) {
                sum += has(with, f);
            }
            if (sum > most) {
                most = sum;
                best = with;
            }
        }
        lay(best);
        return most;
    }

    int reach(int f) {
        if (!isFlock(f)) {
            return -1;
        }
        return calmOnes().stream().mapToInt(with -> has(with, f)).max().orElse(-1);
    }

    private int leastLost;
    private int[] leastOrder;

    int wells() {
        leastLost = Integer.MAX_VALUE;
        leastOrder = null;
        order(new int[flocks()], 0, 0);
        lay(leastOrder);
        return leastLost;
    }

    private void order(int[] row, int n, int used) {
        if (n == row.length) {
            int lost = 0;
            for (int i = 0; i < n; i++) {
                for (int j = 0; j < i; j++) {
                    int weight = now.mate[row[i]] < 0 ? text.flocks.get(row[i]).size : 1;
                    lost += text.flocks.get(row[j]).size * weight;
                }
            }
            if (lost < leastLost) {
                leastLost = lost;
                leastOrder = row.clone();
            }
        }
        for (int f = 0; f < row.length; f++) {
            if ((used & 1 << f) == 0) {
                row[n] = f;
                order(row, n + 1, used | 1 << f);
            }
        }
    }

    int bare() {
        for (int n = 0; n <= 60; n++) {
            if (Arrays.stream(behind(n).grass).sum() == 0) {
                return n;
            }
        }
        return -1;
    }

    int lies(int i) {
        return i >= 0 && i < lying.size() ? lying.get(i) : -2;
    }

    int seen(int days, int f, int c, boolean is) {
        if (days < 0 || days > 9 || !isFlock(f) || !isCell(c) || seen.size() == 30) {
            return -1;
        }
        seen.add(new Sight(days, f, c, is, time));
        return seen.size() - 1;
    }

    boolean untell(int number) {
        if (number < 0 || number >= seen.size() || untold.containsKey(number)) {
            return false;
        }
        untold.put(number, time);
        return true;
    }

    int later(int by) {
        if (by < 0 || by > 1000 || time + by > 100000) {
            return -1;
        }
        time += by;
        return time;
    }

    private State salted(int c, int days) {
        State s = now.copy();
        s.salt[c] = 9;
        return behind(s, days, text.evenings);
    }

    int ledges(int k) {
        int set = 0;
        for (int c = 0; c < cells(); c++) {
            boolean fits = now.salt[c] == 0;
            for (int i = 0; i < seen.size(); i++) {
                Sight s = seen.get(i);
                if (s.told <= k && !(untold.containsKey(i) && untold.get(i) <= k)) {
                    fits &= (salted(c, s.days).at[s.flock] == s.cell) == s.is;
                }
            }
            set |= fits ? 1 << c : 0;
        }
        return set;
    }

    int ask(int n, int what, int k) {
        int ledges = ledges(k);
        if (n < 0 || n > 9 || what < 0 || what > 1 || ledges == 0 || flocks() == 0) {
            return -1;
        }
        int best = -1;
        int fewest = 99;
        for (int f = 0; f < flocks(); f++) {
            Map<Integer, Integer> left = new HashMap<>();
            for (int c = 0; c < cells(); c++) {
                if ((ledges & 1 << c) != 0) {
                    left.merge(salted(c, n).at[f], 1, Integer::sum);
                }
            }
            int most = left.values().stream().mapToInt(x -> x).max().getAsInt();
            if (most < fewest) {
                fewest = most;
                best = f;
            }
        }
        return what == 0 ? best : fewest;
    }

    int image(int box) {
        if (box < 0 || box > 2) {
            return -1;
        }
        boxes[box] = now.copy();
        return now.day;
    }

    int back(int box) {
        if (box < 0 || box > 2 || boxes[box] == null) {
            return -1;
        }
        now = boxes[box].copy();
        done.clear();
        undone.clear();
        return now.day;
    }

    int about(int what) {
        int penned = 0;
        for (int f = 0; f < flocks(); f++) {
            penned |= now.penned[f] ? 1 << f : 0;
        }
        int[] all = {flocks(), text.columns, text.rows, text.feuds.size(), text.evenings, now.day, now.seed, penned,
            done.size(), undone.size(), seen.size(), time, tape.length(), text.units, lying.size()};
        return what >= 0 && what < all.length ? all[what] : -1;
    }
}
