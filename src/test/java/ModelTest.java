import java.util.NoSuchElementException;
import java.util.Random;

/** Random schools and random calls on BaizeDoor and on PlainDoor: both must answer, and throw, the same. */
public final class ModelTest {
    private static final String[] WORDS = {"piece", "study", "pupil", "prodigy", "pianos", "learns", "skill", "sore",
        "hard", "bar", "bars", "away", "and", "or", "not", "x", ";", "(", ")", "+", "-", "*", "/", "<", "=", "0", "1",
        "5", "9", "10", "99", "100", "9999", "12345", "A", "\n", ">", "\t"};
    private static final String[] VALUES = {"skill", "sore", "hard", "bar", "bars", "away"};

    private final Random dice;
    private final BaizeDoor door = new BaizeDoor();
    private final PlainDoor plain = new PlainDoor();
    private final StringBuilder story = new StringBuilder();

    private ModelTest(long seed) {
        dice = new Random(seed);
    }

    public static void main(String[] args) {
        int runs = args.length > 0 ? Integer.parseInt(args[0]) : 1500;
        Desk.within(120 + runs / 50);
        long first = args.length > 1 ? Long.parseLong(args[1]) : 0;
        for (long seed = first; seed < first + runs; seed++) {
            ModelTest run = new ModelTest(seed);
            String wrong = run.play();
            if (wrong != null) {
                System.out.println("seed " + seed + ": " + wrong + "\n" + run.story);
                System.exit(1);
            }
        }
        System.out.println(runs + " random runs are as the model says");
    }

    private int upTo(int n) {
        return dice.nextInt(n + 1);
    }

    private boolean seldom(int n) {
        return dice.nextInt(n) == 0;
    }

    private String expression(int depth) {
        switch (upTo(depth > 3 ? 2 : 9)) {
            case 0: return "" + upTo(12);
            case 1: return seldom(6) ? "" + upTo(9999) : "" + upTo(40);
            case 2: case 3: return VALUES[upTo(5)];
            case 4: return "(" + expression(depth + 1) + ")";
            case 5: return "not " + expression(depth + 1);
            case 6: return expression(depth + 1) + " and " + expression(depth + 1);
            case 7: return expression(depth + 1) + " or " + expression(depth + 1);
            case 8: return part(depth) + (seldom(2) ? "<" : "=") + part(depth);
            default: return part(depth) + "+-*/".charAt(upTo(3)) + part(depth) + "+-*/".charAt(upTo(3)) + part(depth);
        }
    }

    private String part(int depth) {
        return seldom(3) ? "(" + expression(depth + 1) + ")" : seldom(2) ? VALUES[upTo(5)] : "" + upTo(20);
    }

    private String text() {
        StringBuilder s = new StringBuilder();
        int pieces = seldom(30) ? 7 : seldom(8) ? 6 : 1 + upTo(4);
        for (int i = 0; i < pieces; i++) {
            s.append(seldom(2) ? "piece" : "study");
            int bars = seldom(60) ? 9 : 1 + upTo(7);
            int hard = 5 + upTo(40);
            for (int j = 0; j < bars; j++) s.append(' ').append(Math.max(1, Math.min(99, hard += upTo(24) - 8)));
            s.append(";");
        }
        int pupils = seldom(30) ? 8 : seldom(8) ? 7 : upTo(5);
        for (int i = 0; i < pupils; i++) {
            s.append(seldom(3) ? "prodigy " : "pupil ").append(upTo(seldom(4) ? 99 : 40)).append(' ').append(upTo(9));
            s.append(' ').append(upTo(seldom(40) ? pieces : pieces - 1)).append(";\n");
        }
        if (seldom(2)) s.append("pianos ").append(1 + upTo(3)).append(';');
        if (!seldom(3)) s.append("learns ").append(expression(seldom(8) ? -3 : 0)).append(';');
        return s.length() > 700 ? "" : s.toString();
    }

    /** Sometimes spoils a text by one token more, less or in place of another. */
    private String spoilt(String text) {
        if (text.isEmpty() || !seldom(3)) return text;
        int from = upTo(text.length() - 1);
        int to = Math.min(text.length(), from + upTo(4));
        String middle = seldom(3) ? "" : seldom(2) ? WORDS[upTo(WORDS.length - 1)] : " " + WORDS[upTo(WORDS.length - 1)];
        String spoilt = text.substring(0, from) + middle + text.substring(to);
        return spoilt.length() > 700 ? text : spoilt;
    }

    private int[] fives(String text, int from) {
        int[] five = new int[5];
        for (int i = 0; i < 20; i++) {
            int b = from + i < text.length() ? text.charAt(from + i) : ' ';
            five[i / 4] = five[i / 4] << 8 | b;
        }
        return five;
    }

    private String play() {
        String wrong = tell();
        int calls = seldom(10) ? 400 : 20 + upTo(120);
        for (int i = 0; i < calls && wrong == null; i++) {
            wrong = seldom(60) ? tell() : call(upTo(45));
        }
        return wrong;
    }

    private String tell() {
        String text = spoilt(text());
        story.append("text ").append(text.replace("\n", "\\n")).append('\n');
        for (int from = 0; from < text.length(); from += 20) {
            int[] f = fives(text, from);
            int a = door.feed(f[0], f[1], f[2], f[3], f[4]);
            int b = plain.feed(f[0], f[1], f[2], f[3], f[4]);
            if (a != b) return "feed answered " + a + ", due is " + b;
        }
        int n = seldom(30) ? upTo(710) - 5 : Math.min(text.length(), plain.count(9));
        String wrong = same("school(" + n + ")", () -> door.school(n), () -> plain.school(n));
        return wrong != null ? wrong : same("fault()", door::fault, plain::fault);
    }

    interface Call {
        int answer();
    }

    private static String outcome(Call call) {
        try {
            return "" + call.answer();
        } catch (NoSuchElementException e) {
            return "throws.NoSuchElementException";
        } catch (IllegalArgumentException e) {
            return e.getClass() == IllegalArgumentException.class ? "throws.IllegalArgumentException" : "throws." + e;
        } catch (RuntimeException e) {
            return "throws." + e;
        }
    }

    private String same(String name, Call one, Call other) {
        String got = outcome(one);
        String due = outcome(other);
        story.append(name).append(" = ").append(got).append('\n');
        return got.equals(due) ? null : name + " answered " + got + ", due is " + due;
    }

    private int number(int least, int most) {
        if (seldom(40)) return seldom(2) ? least - 1 : most + 1;
        if (seldom(200)) return dice.nextInt();
        return least + upTo(most - least);
    }

    private int who() {
        int pupils = plain.count(1);
        return pupils == 0 ? upTo(2) - 1 : number(0, pupils - 1);
    }

    private int which() {
        int pieces = plain.count(0);
        return pieces == 0 ? upTo(2) - 1 : number(0, pieces - 1);
    }

    private String call(int kind) {
        int p = who(), q = who(), a = which(), b = which();
        switch (kind) {
            case 0: { int w = number(0, 12); return same("count(" + w + ")", () -> door.count(w), () -> plain.count(w)); }
            case 1: { int w = number(0, 2); return same("piece(" + a + "," + w + ")", () -> door.piece(a, w), () -> plain.piece(a, w)); }
            case 2: { int i = number(0, 7); return same("bar(" + a + "," + i + ")", () -> door.bar(a, i), () -> plain.bar(a, i)); }
            case 3: case 4: { int w = number(0, 6); return same("pupil(" + p + "," + w + ")", () -> door.pupil(p, w), () -> plain.pupil(p, w)); }
            case 5: { int m = seldom(6) ? number(1, 20) : 1 + upTo(3); return same("weeks(" + m + ")", () -> door.weeks(m), () -> plain.weeks(m)); }
            case 6: case 7: { int k = seldom(2) ? number(1, 4) : number(1, 30); return same("door(" + p + "," + k + ")", () -> door.door(p, k), () -> plain.door(p, k)); }
            case 8: { int l = number(1, 9); return same("gloves(" + p + "," + l + ")", () -> door.gloves(p, l), () -> plain.gloves(p, l)); }
            case 9: return same("begin(" + p + "," + a + ")", () -> door.begin(p, a), () -> plain.begin(p, a));
            case 10: { int m = number(1, 4); return same("pianos(" + m + ")", () -> door.pianos(m), () -> plain.pianos(m)); }
            case 11: return same("undo()", door::undo, plain::undo);
            case 12: { int w = number(0, 60), x = number(0, 2); return same("then(" + p + "," + w + "," + x + ")", () -> door.then(p, w, x), () -> plain.then(p, w, x)); }
            case 13: return same("done(" + p + ")", () -> door.done(p), () -> plain.done(p));
            case 14: { int w = number(0, 60); return same("heard(" + w + ")", () -> door.heard(w), () -> plain.heard(w)); }
            case 15: { int w = number(0, 60); return same("best(" + w + ")", () -> door.best(w), () -> plain.best(w)); }
            case 16: return same("stuck()", door::stuck, plain::stuck);
            case 17: return same("free(" + p + ")", () -> door.free(p), () -> plain.free(p));
            case 18: { int w = number(1, 30); return same("nobody(" + w + ")", () -> door.nobody(w), () -> plain.nobody(w)); }
            case 19: return same("through(" + p + ")", () -> door.through(p), () -> plain.through(p));
            case 20: { int w = number(0, 30); return same("toBeDone(" + p + "," + w + ")", () -> door.toBeDone(p, w), () -> plain.toBeDone(p, w)); }
            case 21: return same("fits(" + p + "," + a + ")", () -> door.fits(p, a), () -> plain.fits(p, a));
            case 22: return same("repertoire(" + p + ")", () -> door.repertoire(p), () -> plain.repertoire(p));
            case 23: { int w = seldom(3) ? -1 : p; return same("choice(" + w + ")", () -> door.choice(w), () -> plain.choice(w)); }
            case 24: return same("hardest()", door::hardest, plain::hardest);
            case 25: { int w = number(0, 1), i = number(0, 7); return same("concert(" + w + "," + i + ")", () -> door.concert(w, i), () -> plain.concert(w, i)); }
            case 26: return same("duet()", door::duet, plain::duet);
            case 27: return same("next(" + p + ")", () -> door.next(p), () -> plain.next(p));
            case 28: { int w = number(1, 60), x = number(0, 1); return same("rush(" + w + "," + x + ")", () -> door.rush(w, x), () -> plain.rush(w, x)); }
            case 29: { int w = number(0, 60); return same("sorest(" + w + ")", () -> door.sorest(w), () -> plain.sorest(w)); }
            case 30: return same("toGlove(" + p + ")", () -> door.toGlove(p), () -> plain.toGlove(p));
            case 31: { int k = number(1, 30); return same("full(" + k + ")", () -> door.full(k), () -> plain.full(k)); }
            case 32: { int w = number(1, 30); return same("empty(" + w + ")", () -> door.empty(w), () -> plain.empty(w)); }
            case 33: return same("common(" + a + "," + b + ")", () -> door.common(a, b), () -> plain.common(a, b));
            case 34: return same("work(" + a + ")", () -> door.work(a), () -> plain.work(a));
            case 35: return same("mates(" + p + ")", () -> door.mates(p), () -> plain.mates(p));
            case 36: case 37: return seeSomething(p);
            case 38: { int w = number(0, 2); return same("been(" + w + ")", () -> door.been(w), () -> plain.been(w)); }
            case 39: { int w = number(0, 1); return same("listen(" + w + ")", () -> door.listen(w), () -> plain.listen(w)); }
            case 40: { int w = number(0, 1); return same("game(" + p + "," + q + "," + w + ")", () -> door.game(p, q, w), () -> plain.game(p, q, w)); }
            case 41: { int s = dice.nextInt(), n = number(0, 60), w = number(0, 2); return same("years(" + s + "," + n + "," + w + ")", () -> door.years(s, n, w), () -> plain.years(s, n, w)); }
            case 42: return same("image()", () -> { door.image(); return 0; }, () -> { plain.image(); return 0; });
            default: return rare();
        }
    }

    /** Mostly what might be so: bars near those that will be done. */
    private String seeSomething(int p) {
        int w = number(1, 20);
        int due = p >= 0 && p < plain.count(1) && w >= 0 && w <= 20 ? plain.then(p, w, 1) : upTo(8);
        int bars = seldom(4) ? number(0, 8) : Math.max(0, due - upTo(1));
        return same("see(" + p + "," + w + "," + bars + ")", () -> door.see(p, w, bars), () -> plain.see(p, w, bars));
    }

    private String rare() {
        if (seldom(2)) return same("forget()", () -> { door.forget(); return 0; }, () -> { plain.forget(); return 0; });
        return same("restore()", () -> door.restore() ? 1 : 0, () -> plain.restore() ? 1 : 0);
    }
}
