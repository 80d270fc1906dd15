import java.util.ArrayDeque;
import java.util.ArrayList;
import java.util.Arrays;
import java.util.Deque;
import java.util.HashSet;
import java.util.List;
import java.util.NoSuchElementException;
import java.util.Set;
import java.util.TreeSet;
import java.util.function.ToIntFunction;
import java.util.regex.Matcher;
import java.util.regex.Pattern;

/**
 * The document once more, in another form, for ModelTest to hold BaizeDoor against: weeks by their own numbers, whole
 * copies in place of rows, every question answered by living through all of it with everybody.
 */
final class PlainDoor {
    static final int NONE = -1;

    /** A piece, as told. */
    static final class Piece {
        boolean study;
        final List<Integer> bars = new ArrayList<>();
    }

    /** A pupil, with the numbers of the weeks in which one is away. */
    static final class Pupil {
        int skill, sore, piece, done;
        boolean prodigy;
        Set<Integer> away = new TreeSet<>();

        Pupil copy() {
            Pupil p = new Pupil();
            p.skill = skill;
            p.sore = sore;
            p.piece = piece;
            p.done = done;
            p.prodigy = prodigy;
            p.away = new TreeSet<>(away);
            return p;
        }
    }

    /** Everything that a week or an act changes, and the ways in which it does. */
    static final class World {
        List<Piece> pieces = new ArrayList<>();
        ToIntFunction<int[]> learns;
        List<Pupil> pupils = new ArrayList<>();
        int pianos = 2;
        int week;

        World copy() {
            World w = new World();
            w.pieces = pieces;
            w.learns = learns;
            for (Pupil p : pupils) w.pupils.add(p.copy());
            w.pianos = pianos;
            w.week = week;
            return w;
        }

        boolean isDone(Pupil p) {
            return p.done == pieces.get(p.piece).bars.size();
        }

        void practise(Pupil p) {
            int gain;
            if (learns == null) {
                gain = 5 - p.sore / 2;
            } else {
                int toCome = 0;
                for (int w : p.away) if (w >= week) toCome++;
                List<Integer> bars = pieces.get(p.piece).bars;
                int hard = isDone(p) ? 0 : bars.get(p.done);
                gain = learns.applyAsInt(new int[] {p.skill, p.sore, hard, p.done, bars.size(), toCome});
                gain = gain < 0 ? 0 : gain > 20 ? 20 : gain;
            }
            if (p.prodigy) gain *= 2;
            p.skill = Math.min(99, p.skill + gain);
        }

        void week() {
            for (Pupil p : pupils) {
                if (p.away.contains(week)) continue;
                practise(p);
                Piece piece = pieces.get(p.piece);
                boolean more = true;
                while (more && !isDone(p) && p.skill >= piece.bars.get(p.done)) {
                    p.done++;
                    more = piece.study;
                }
                if (p.sore > 0) p.sore--;
            }
            week++;
        }

        World later(int weeks) {
            World w = copy();
            for (int i = 0; i < weeks; i++) w.week();
            return w;
        }

        Set<Integer> awayIn(int k) {
            Set<Integer> who = new TreeSet<>();
            for (int i = 0; i < pupils.size(); i++) if (pupils.get(i).away.contains(week + k - 1)) who.add(i);
            return who;
        }

        boolean could(int p, int k) {
            return k >= 1 && k <= 30 && !awayIn(k).contains(p) && awayIn(k).size() < pianos;
        }

        void go(int p, int k) {
            practise(pupils.get(p));
            soreBy(p, 2);
            pupils.get(p).away.add(week + k - 1);
        }

        void soreBy(int p, int more) {
            Pupil one = pupils.get(p);
            one.sore = Math.max(0, Math.min(9, one.sore + more));
        }

        int bars() {
            int sum = 0;
            for (Pupil p : pupils) sum += p.done;
            return sum;
        }

        int skill() {
            int sum = 0;
            for (Pupil p : pupils) sum += p.skill;
            return sum;
        }
    }

    /** A fault, at its place. */
    static final class Fault extends Exception {
        final int kind, place;

        Fault(int kind, int place) {
            this.kind = kind;
            this.place = place;
        }
    }

    /** Reads a text into a world. */
    static final class Parser {
        static final Pattern TOKEN = Pattern.compile("[ \\n]*([a-z]+|[0-9]+|[;()+*/<=-]|\\z|[\\s\\S])");
        static final List<String> VALUES = Arrays.asList("skill", "sore", "hard", "bar", "bars", "away");
        final List<String> tokens = new ArrayList<>();
        final List<Integer> places = new ArrayList<>();
        int at;

        Parser(String text) {
            Matcher m = TOKEN.matcher(text);
            int from = 0;
            while (m.find(from)) {
                tokens.add(m.group(1));
                places.add(m.start(1));
                if (m.group(1).isEmpty()) break;
                from = m.end();
            }
        }

        String token() {
            return tokens.get(at);
        }

        Fault fault(int kind) {
            return new Fault(kind, places.get(at));
        }

        boolean number() {
            return token().matches("[0-9]+");
        }

        boolean word() {
            return token().matches("[a-z]+");
        }

        int number(int least, int most) throws Fault {
            if (!number()) throw fault(1);
            if (token().length() > 4) throw fault(2);
            int n = Integer.parseInt(token());
            if (n < least || n > most) throw fault(2);
            at++;
            return n;
        }

        void sign(String s) throws Fault {
            if (!token().equals(s)) throw fault(1);
            at++;
        }

        World read() throws Fault {
            World w = new World();
            boolean pianos = false;
            while (!token().isEmpty()) {
                String t = token();
                if (t.equals("piece") || t.equals("study")) {
                    if (w.pieces.size() == 6) throw fault(2);
                    at++;
                    Piece piece = new Piece();
                    piece.study = t.equals("study");
                    do {
                        if (number() && piece.bars.size() == 8) throw fault(2);
                        piece.bars.add(number(1, 99));
                    } while (number());
                    w.pieces.add(piece);
                } else if (t.equals("pupil") || t.equals("prodigy")) {
                    if (w.pupils.size() == 7) throw fault(2);
                    at++;
                    Pupil p = new Pupil();
                    p.prodigy = t.equals("prodigy");
                    p.skill = number(0, 99);
                    p.sore = number(0, 9);
                    p.piece = number(0, 9999);
                    if (p.piece >= w.pieces.size()) {
                        at--;
                        throw fault(3);
                    }
                    w.pupils.add(p);
                } else if (t.equals("pianos")) {
                    if (pianos) throw fault(5);
                    pianos = true;
                    at++;
                    w.pianos = number(1, 4);
                } else if (t.equals("learns")) {
                    if (w.learns != null) throw fault(5);
                    at++;
                    w.learns = or(0);
                } else {
                    throw fault(1);
                }
                sign(";");
            }
            return w;
        }

        ToIntFunction<int[]> or(int within) throws Fault {
            if (within == 6) throw fault(number() || word() || token().equals("(") ? 2 : 1);
            ToIntFunction<int[]> left = and(within);
            while (token().equals("or")) {
                at++;
                ToIntFunction<int[]> a = left, b = and(within);
                left = v -> a.applyAsInt(v) != 0 | b.applyAsInt(v) != 0 ? 1 : 0;
            }
            return left;
        }

        ToIntFunction<int[]> and(int within) throws Fault {
            ToIntFunction<int[]> left = not(within, 1);
            while (token().equals("and")) {
                at++;
                ToIntFunction<int[]> a = left, b = not(within, 1);
                left = v -> a.applyAsInt(v) != 0 & b.applyAsInt(v) != 0 ? 1 : 0;
            }
            return left;
        }

        ToIntFunction<int[]> not(int within, int nth) throws Fault {
            if (token().equals("not")) {
                if (nth == 7) throw fault(2);
                at++;
                ToIntFunction<int[]> a = not(within, nth + 1);
                return v -> a.applyAsInt(v) == 0 ? 1 : 0;
            }
            ToIntFunction<int[]> a = sum(within);
            if (token().equals("<")) {
                at++;
                ToIntFunction<int[]> b = sum(within);
                return v -> a.applyAsInt(v) < b.applyAsInt(v) ? 1 : 0;
            }
            if (token().equals("=")) {
                at++;
                ToIntFunction<int[]> b = sum(within);
                return v -> a.applyAsInt(v) == b.applyAsInt(v) ? 1 : 0;
            }
            return a;
        }

        ToIntFunction<int[]> sum(int within) throws Fault {
            ToIntFunction<int[]> left = product(within);
            while (token().equals("+") || token().equals("-")) {
                int by = token().equals("+") ? 1 : -1;
                at++;
                ToIntFunction<int[]> a = left, b = product(within);
                left = v -> a.applyAsInt(v) + by * b.applyAsInt(v);
            }
            return left;
        }

        ToIntFunction<int[]> product(int within) throws Fault {
            ToIntFunction<int[]> left = part(within);
            while (token().equals("*") || token().equals("/")) {
                boolean times = token().equals("*");
                at++;
                ToIntFunction<int[]> a = left, b = part(within);
                left = v -> {
                    int x = a.applyAsInt(v), y = b.applyAsInt(v);
                    return times ? x * y : y == 0 ? 0 : x / y;
                };
            }
            return left;
        }

        ToIntFunction<int[]> part(int within) throws Fault {
            if (number()) {
                int n = number(0, 9999);
                return v -> n;
            }
            if (word()) {
                int i = VALUES.indexOf(token());
                if (i < 0) throw fault(3);
                at++;
                return v -> v[i];
            }
            sign("(");
            ToIntFunction<int[]> inner = or(within + 1);
            sign(")");
            return inner;
        }
    }

    private String tape = "";
    private int faultAt = NONE;
    private World now = new World();
    private Deque<World> acts = new ArrayDeque<>();
    private List<int[]> seen = new ArrayList<>();
    private int[] status = new int[3];
    private World imageNow;
    private Deque<World> imageActs;
    private List<int[]> imageSeen;
    private int[] imageStatus;

    private static void must(boolean there) {
        if (!there) throw new NoSuchElementException();
    }

    private static void argue(boolean good) {
        if (!good) throw new IllegalArgumentException();
    }

    private boolean isPupil(int p) {
        return p >= 0 && p < now.pupils.size();
    }

    private boolean isPiece(int p) {
        return p >= 0 && p < now.pieces.size();
    }

    private int refuse(int which) {
        status[which]++;
        return NONE;
    }

    private void act() {
        acts.addLast(now.copy());
        if (acts.size() > 40) acts.removeFirst();
    }

    int feed(int a, int b, int c, int d, int e) {
        if (tape.length() + 20 > 700) return NONE;
        StringBuilder s = new StringBuilder(tape);
        for (int n : new int[] {a, b, c, d, e}) {
            for (int i = 3; i >= 0; i--) s.append((char) (n >> 8 * i & 255));
        }
        tape = s.toString();
        return tape.length();
    }

    int school(int n) {
        argue(n >= 0 && n <= tape.length());
        String text = tape.substring(0, n);
        tape = "";
        try {
            now = new Parser(text).read();
        } catch (Fault f) {
            faultAt = f.place;
            status[0]++;
            return f.kind;
        }
        faultAt = NONE;
        acts.clear();
        seen.clear();
        imageNow = null;
        return 0;
    }

    int fault() {
        return faultAt;
    }

    private static int bits(Iterable<Integer> numbers) {
        int bits = 0;
        for (int i : numbers) bits |= 1 << i;
        return bits;
    }

    int count(int what) {
        must(what >= 0 && what <= 12);
        Set<Integer> done = new TreeSet<>();
        for (int i = 0; i < now.pupils.size(); i++) if (now.isDone(now.pupils.get(i))) done.add(i);
        return new int[] {now.pieces.size(), now.pupils.size(), now.pianos, now.week, bits(now.awayIn(1)), bits(done),
            now.skill(), acts.size(), seen.size(), tape.length(), status[0], status[1], status[2]}[what];
    }

    int piece(int piece, int what) {
        must(isPiece(piece) && what >= 0 && what <= 2);
        List<Integer> bars = now.pieces.get(piece).bars;
        int steps = 0;
        for (int i = 0; i + 1 < bars.size(); i++) steps = Math.max(steps, bars.get(i + 1) - bars.get(i));
        return what == 0 ? bars.size() : what == 1 ? (now.pieces.get(piece).study ? 1 : 0) : steps;
    }

    int bar(int piece, int i) {
        must(isPiece(piece) && i >= 0 && i < now.pieces.get(piece).bars.size());
        return now.pieces.get(piece).bars.get(i);
    }

    int pupil(int pupil, int what) {
        must(isPupil(pupil) && what >= 0 && what <= 6);
        Pupil p = now.pupils.get(pupil);
        int away = 0;
        for (int k = 1; k <= 30; k++) if (now.awayIn(k).contains(pupil)) away |= 1 << (k - 1);
        World w = now.copy();
        w.practise(w.pupils.get(pupil));
        int more = w.pupils.get(pupil).skill - p.skill;
        return new int[] {p.skill, p.sore, p.piece, p.done, away, p.prodigy ? 1 : 0, more}[what];
    }

    int weeks(int many) {
        if (many < 1 || many > 20 || now.week + many > 999) return refuse(1);
        act();
        now = now.later(many);
        return now.week;
    }

    int door(int pupil, int k) {
        must(isPupil(pupil));
        if (!now.could(pupil, k)) return refuse(1);
        act();
        now.go(pupil, k);
        return now.pupils.get(pupil).skill;
    }

    int gloves(int pupil, int less) {
        must(isPupil(pupil));
        if (less < 1 || less > 9) return refuse(1);
        act();
        now.soreBy(pupil, -less);
        return now.pupils.get(pupil).sore;
    }

    int begin(int pupil, int piece) {
        must(isPupil(pupil) && isPiece(piece));
        int old = now.pupils.get(pupil).piece;
        if (old == piece) return refuse(1);
        act();
        now.pupils.get(pupil).piece = piece;
        now.pupils.get(pupil).done = 0;
        return old;
    }

    int pianos(int many) {
        if (many < 1 || many > 4) return refuse(1);
        act();
        int old = now.pianos;
        now.pianos = many;
        return old;
    }

    int undo() {
        if (acts.isEmpty()) return NONE;
        now = acts.removeLast();
        return acts.size();
    }

    int then(int pupil, int weeks, int what) {
        must(isPupil(pupil) && what >= 0 && what <= 2);
        argue(weeks >= 0 && weeks <= 60);
        Pupil p = now.later(weeks).pupils.get(pupil);
        return new int[] {p.skill, p.done, p.sore}[what];
    }

    int done(int pupil) {
        must(isPupil(pupil));
        for (int w = 0; w <= 60; w++) {
            World then = now.later(w);
            if (then.isDone(then.pupils.get(pupil))) return w;
        }
        return NONE;
    }

    int heard(int weeks) {
        argue(weeks >= 0 && weeks <= 60);
        return now.later(weeks).bars() - now.bars();
    }

    int best(int weeks) {
        argue(weeks >= 0 && weeks <= 60);
        List<Pupil> all = now.later(weeks).pupils;
        int who = NONE;
        for (int i = all.size() - 1; i >= 0; i--) if (who < 0 || all.get(i).skill >= all.get(who).skill) who = i;
        return who;
    }

    int stuck() {
        Set<Integer> who = new TreeSet<>();
        World then = now.later(60);
        for (int i = 0; i < then.pupils.size(); i++) if (!then.isDone(then.pupils.get(i))) who.add(i);
        return bits(who);
    }

    private List<Integer> freeWeeks(World w, int pupil) {
        List<Integer> weeks = new ArrayList<>();
        for (int k = 1; k <= 30; k++) if (w.could(pupil, k)) weeks.add(k);
        return weeks;
    }

    int free(int pupil) {
        must(isPupil(pupil));
        return bits(freeWeeks(now, pupil)) >>> 1;
    }

    int nobody(int weeks) {
        argue(weeks >= 1 && weeks <= 30);
        int many = 0;
        for (int k = 1; k <= weeks; k++) {
            if (!now.pupils.isEmpty() && now.awayIn(k).size() == now.pupils.size()) many++;
        }
        return many;
    }

    int through(int pupil) {
        must(isPupil(pupil));
        World w = now.copy();
        for (int times = 0;; times++) {
            Pupil p = w.pupils.get(pupil);
            if (w.isDone(p) || p.skill >= w.pieces.get(p.piece).bars.get(p.done)) return times;
            List<Integer> free = freeWeeks(w, pupil);
            if (free.isEmpty()) return NONE;
            w.go(pupil, free.get(0));
        }
    }

    int toBeDone(int pupil, int weeks) {
        must(isPupil(pupil));
        argue(weeks >= 0 && weeks <= 30);
        World w = now.copy();
        for (int times = 0;; times++) {
            World then = w.later(weeks);
            if (then.isDone(then.pupils.get(pupil))) return times;
            List<Integer> free = freeWeeks(w, pupil);
            if (free.isEmpty()) return NONE;
            w.go(pupil, free.get(free.size() - 1));
        }
    }

    int fits(int pupil, int piece) {
        must(isPupil(pupil) && isPiece(piece));
        int many = 0;
        for (int hard : now.pieces.get(piece).bars) {
            if (hard > now.pupils.get(pupil).skill) break;
            many++;
        }
        return many;
    }

    int repertoire(int pupil) {
        must(isPupil(pupil));
        Set<Integer> all = new TreeSet<>();
        for (int i = 0; i < now.pieces.size(); i++) if (fits(pupil, i) == piece(i, 0)) all.add(i);
        return bits(all);
    }

    private int[] bestRow;
    private int bestBars;

    /** All rows, the first one first; one is kept only if it has more bars than all ahead of it. */
    private void allRows(int[] row, int pupil, Set<Integer> taken, int bars) {
        if (pupil == row.length) {
            if (bars > bestBars) {
                bestBars = bars;
                bestRow = row.clone();
            }
            return;
        }
        for (int piece = 0; piece < now.pieces.size(); piece++) {
            if (taken.add(piece)) {
                row[pupil] = piece;
                allRows(row, pupil + 1, taken, bars + fits(pupil, piece));
                taken.remove(piece);
            }
        }
        row[pupil] = NONE;
        allRows(row, pupil + 1, taken, bars);
    }

    int choice(int pupil) {
        must(pupil == NONE || isPupil(pupil));
        bestBars = -1;
        allRows(new int[now.pupils.size()], 0, new HashSet<>(), 0);
        return pupil == NONE ? bestBars : bestRow[pupil];
    }

    int hardest() {
        int which = NONE, most = 0;
        for (int i = 0; i < now.pieces.size(); i++) {
            int top = java.util.Collections.max(now.pieces.get(i).bars);
            if (top > most) {
                most = top;
                which = i;
            }
        }
        return which;
    }

    int concert(int whom, int i) {
        argue(i >= 0 && (whom == 0 || whom == 1));
        List<Integer> row = new ArrayList<>();
        for (int p = 0; p < now.pupils.size(); p++) if (whom == 1 || now.isDone(now.pupils.get(p))) row.add(p);
        row.sort((a, b) -> now.pupils.get(a).skill - now.pupils.get(b).skill);
        return i < row.size() ? row.get(i) : NONE;
    }

    int duet() {
        int couple = NONE, least = 1000;
        for (int a = 0; a < now.pupils.size(); a++) {
            for (int b = a + 1; b < now.pupils.size(); b++) {
                int apart = Math.abs(now.pupils.get(a).skill - now.pupils.get(b).skill);
                if (apart < least) {
                    least = apart;
                    couple = 10 * a + b;
                }
            }
        }
        return couple;
    }

    int next(int pupil) {
        must(isPupil(pupil));
        for (int w = 1; w <= 60; w++) {
            if (now.later(w).pupils.get(pupil).done > now.pupils.get(pupil).done) return w;
        }
        return NONE;
    }

    int rush(int weeks, int what) {
        must(what == 0 || what == 1);
        argue(weeks >= 1 && weeks <= 60);
        int which = 0, most = -1;
        for (int w = 1; w <= weeks; w++) {
            int many = now.later(w).bars() - now.later(w - 1).bars();
            if (many > most) {
                most = many;
                which = w;
            }
        }
        return what == 0 ? which : most;
    }

    int sorest(int weeks) {
        argue(weeks >= 0 && weeks <= 60);
        List<Pupil> all = now.later(weeks).pupils;
        int who = NONE;
        for (int i = all.size() - 1; i >= 0; i--) if (who < 0 || all.get(i).sore >= all.get(who).sore) who = i;
        return who;
    }

    int toGlove(int pupil) {
        must(isPupil(pupil));
        for (int less = 0; less <= 9; less++) {
            World w = now.copy();
            w.soreBy(pupil, -less);
            w.week();
            if (w.pupils.get(pupil).done > now.pupils.get(pupil).done) return less;
        }
        return NONE;
    }

    int full(int k) {
        argue(k >= 1 && k <= 30);
        return bits(now.awayIn(k));
    }

    int empty(int weeks) {
        argue(weeks >= 1 && weeks <= 30);
        int many = 0;
        for (int k = 1; k <= weeks; k++) if (now.awayIn(k).isEmpty()) many++;
        return many;
    }

    /** By every choice of bars out of the first one. */
    int common(int piece, int other) {
        must(isPiece(piece) && isPiece(other));
        List<Integer> a = now.pieces.get(piece).bars, b = now.pieces.get(other).bars;
        int most = 0;
        for (int some = 0; some < 1 << a.size(); some++) {
            int at = 0, many = 0;
            boolean all = true;
            for (int i = 0; i < a.size() && all; i++) {
                if ((some >> i & 1) == 0) continue;
                while (at < b.size() && !b.get(at).equals(a.get(i))) at++;
                all = at < b.size();
                at++;
                many++;
            }
            if (all) most = Math.max(most, many);
        }
        return most;
    }

    int work(int piece) {
        must(isPiece(piece));
        int sum = 0;
        for (int hard : now.pieces.get(piece).bars) sum += hard;
        return sum;
    }

    int mates(int pupil) {
        must(isPupil(pupil));
        Set<Integer> who = new TreeSet<>();
        for (int i = 0; i < now.pupils.size(); i++) {
            if (i != pupil && now.pupils.get(i).piece == now.pupils.get(pupil).piece) who.add(i);
        }
        return bits(who);
    }

    int see(int pupil, int weeks, int bars) {
        must(isPupil(pupil));
        if (seen.size() == 8 || weeks < 1 || weeks > 20 || bars < 0 || bars > 8) return refuse(2);
        seen.add(new int[] {pupil, weeks, bars});
        return seen.size();
    }

    private boolean allSeenAreSo(World w) {
        for (int[] s : seen) if (w.later(s[1]).pupils.get(s[0]).done != s[2]) return false;
        return true;
    }

    private World with(int pupil, int week) {
        World w = now.copy();
        w.pupils.get(pupil).away.add(w.week + week - 1);
        return w;
    }

    private List<int[]> suspects() {
        List<int[]> all = new ArrayList<>();
        for (int p = 0; p < now.pupils.size(); p++) {
            for (int k = 1; k <= 20; k++) {
                if (!now.awayIn(k).contains(p) && allSeenAreSo(with(p, k))) all.add(new int[] {p, k});
            }
        }
        return all;
    }

    int been(int what) {
        must(what >= 0 && what <= 2);
        if (what == 2) return allSeenAreSo(now) ? 1 : 0;
        List<int[]> all = suspects();
        return what == 0 ? all.size() : all.isEmpty() ? NONE : 100 * all.get(0)[0] + all.get(0)[1];
    }

    int listen(int what) {
        must(what == 0 || what == 1);
        List<Set<Integer>> skills = new ArrayList<>();
        for (Pupil p : now.pupils) skills.add(new HashSet<>());
        for (int[] s : suspects()) {
            World then = with(s[0], s[1]).later(20);
            for (int p = 0; p < then.pupils.size(); p++) skills.get(p).add(then.pupils.get(p).skill);
        }
        int who = NONE, most = 0;
        for (int p = 0; p < skills.size(); p++) {
            if (skills.get(p).size() > most) {
                most = skills.get(p).size();
                who = p;
            }
        }
        return what == 0 ? who : most;
    }

    void forget() {
        seen.clear();
    }

    private int[] gains(int pupil, int other, int a, int b) {
        World w = now.copy();
        boolean one = now.pianos - now.awayIn(1).size() == 1;
        if (a == 1 && b == 1 && one) {
            w.go(Math.min(pupil, other), 1);
            w.soreBy(Math.max(pupil, other), 2);
        } else {
            if (a == 1) w.go(pupil, 1);
            if (b == 1) w.go(other, 1);
        }
        World then = w.later(10);
        return new int[] {then.pupils.get(pupil).done - now.pupils.get(pupil).done,
            then.pupils.get(other).done - now.pupils.get(other).done};
    }

    int game(int pupil, int other, int what) {
        must(isPupil(pupil) && isPupil(other) && (what == 0 || what == 1));
        argue(pupil != other);
        boolean oneCould = now.could(pupil, 1), otherCould = now.could(other, 1);
        List<Integer> rest = new ArrayList<>();
        for (int a = 0; a <= (oneCould ? 1 : 0); a++) {
            for (int b = 0; b <= (otherCould ? 1 : 0); b++) {
                int[] here = gains(pupil, other, a, b);
                boolean rests = !(oneCould && gains(pupil, other, 1 - a, b)[0] > here[0])
                    && !(otherCould && gains(pupil, other, a, 1 - b)[1] > here[1]);
                if (rests) rest.add(10 * a + b);
            }
        }
        return what == 0 ? rest.size() : rest.isEmpty() ? NONE : rest.get(0);
    }

    private int seed;

    private int draw(int n) {
        seed = seed * 1103515245 + 12345;
        return (int) ((seed & 0xffffffffL) >> 16 & 0x7fff) % n;
    }

    int years(int seed, int n, int what) {
        must(what >= 0 && what <= 2);
        argue(n >= 0 && n <= 60);
        this.seed = seed;
        World w = now.copy();
        for (int i = 0; i < n; i++) {
            int chance = draw(5);
            if (!w.pupils.isEmpty()) {
                if (chance == 0) {
                    int p = draw(w.pupils.size());
                    int k = draw(30) + 1;
                    if (w.could(p, k)) w.go(p, k);
                } else if (chance == 1) {
                    w.soreBy(draw(w.pupils.size()), 3);
                } else if (chance == 2) {
                    w.soreBy(draw(w.pupils.size()), -3);
                }
            }
            w.week();
        }
        int done = 0;
        for (Pupil p : w.pupils) if (w.isDone(p)) done++;
        return what == 0 ? w.bars() - now.bars() : what == 1 ? done : w.skill();
    }

    void image() {
        imageNow = now.copy();
        imageActs = new ArrayDeque<>();
        for (World w : acts) imageActs.addLast(w.copy());
        imageSeen = new ArrayList<>(seen);
        imageStatus = status.clone();
    }

    boolean restore() {
        if (imageNow == null) return false;
        now = imageNow.copy();
        acts = new ArrayDeque<>();
        for (World w : imageActs) acts.addLast(w.copy());
        seen = new ArrayList<>(imageSeen);
        status = imageStatus.clone();
        return true;
    }
}
