import java.util.NoSuchElementException;

/** A school of music with a door to weeks that aren't there yet. The document's promises say what each call does. */
public final class BaizeDoor {
    public static final int NONE = -1;

    private static final int TAPE_MOST = 700;
    private static final int PIECES_MOST = 6;
    private static final int BARS_MOST = 8;
    private static final int PUPILS_MOST = 7;
    private static final int PIANOS_MOST = 4;
    private static final int HARD_MOST = 99;
    private static final int SKILL_MOST = 99;
    private static final int SORE_MOST = 9;
    private static final int LEARNT_MOST = 20;
    private static final int WEEK_MOST = 999;
    private static final int DOOR_REACH = 30;
    private static final int FORESIGHT = 60;
    private static final int GUESS_REACH = 20;
    private static final int GAME_WEEKS = 10;
    private static final int ACTS_MOST = 40;
    private static final int SEEN_MOST = 8;

    private static final int REFUSED_TEXT = 0;
    private static final int REFUSED_ACT = 1;
    private static final int REFUSED_SEEN = 2;

    private final Reader reader = new Reader();
    private int fed;
    private int faultPlace = NONE;
    private School school = new School();
    private final Acts acts = new Acts();
    private final Seen seen = new Seen();
    private final int[] status = new int[3];
    private final Image image = new Image();
    private final Player probe = new Player();
    private final Player trial = new Player();
    private final Term dream = new Term();
    private final int[] tally = new int[FORESIGHT + 1];
    private final Search search = new Search();
    private final Chooser chooser = new Chooser();
    private final Duel duel = new Duel();
    private int seed;

    public BaizeDoor() {
    }

    public int feed(int a, int b, int c, int d, int e) {
        if (fed > TAPE_MOST - 20) {
            return NONE;
        }
        putFour(a);
        putFour(b);
        putFour(c);
        putFour(d);
        putFour(e);
        return fed;
    }

    private void putFour(int four) {
        for (int shift = 24; shift >= 0 && fed < TAPE_MOST; shift -= 8) {
            reader.text[fed] = (byte) (four >>> shift);
            fed++;
        }
    }

    public int school(int n) throws IllegalArgumentException {
        if (n < 0 || n > fed) {
            throw new IllegalArgumentException("the tape has not so many bytes");
        }
        fed = 0;
        reader.readSchool(n);
        faultPlace = reader.place;
        if (reader.fault != 0) {
            status[REFUSED_TEXT]++;
            return reader.fault;
        }
        School old = school;
        school = reader.school;
        reader.school = old;
        acts.clear();
        seen.clear();
        image.kept = false;
        return 0;
    }

    public int fault() {
        return faultPlace;
    }

    public int count(int what) throws NoSuchElementException {
        switch (what) {
            case 0: return school.pieces;
            case 1: return school.term.pupils;
            case 2: return school.term.pianos;
            case 3: return school.term.week;
            case 4: return school.term.awayIn(1);
            case 5: return whoseIsDone();
            case 6: return school.term.skillOfAll();
            case 7: return acts.kept;
            case 8: return seen.size;
            case 9: return fed;
            case 10: return status[REFUSED_TEXT];
            case 11: return status[REFUSED_ACT];
            case 12: return status[REFUSED_SEEN];
            default: throw new NoSuchElementException("no such count");
        }
    }

    private int whoseIsDone() {
        int bits = 0;
        for (int p = 0; p < school.term.pupils; p++) {
            if (school.isDone(school.term.players[p])) {
                bits |= 1 << p;
            }
        }
        return bits;
    }

    public int piece(int piece, int what) throws NoSuchElementException {
        needPiece(piece);
        switch (what) {
            case 0: return school.bars[piece];
            case 1: return school.study[piece];
            case 2: return school.steps(piece);
            default: throw new NoSuchElementException("no such what of a piece");
        }
    }

    public int bar(int piece, int i) throws NoSuchElementException {
        needPiece(piece);
        if (i < 0 || i >= school.bars[piece]) {
            throw new NoSuchElementException("no such bar");
        }
        return school.hardOf(piece, i);
    }

    public int pupil(int pupil, int what) throws NoSuchElementException {
        Player one = needPupil(pupil);
        switch (what) {
            case 0: return one.skill;
            case 1: return one.sore;
            case 2: return one.piece;
            case 3: return one.bars;
            case 4: return one.away;
            case 5: return one.prodigy;
            case 6: return wouldLearn(one);
            default: throw new NoSuchElementException("no such what of a pupil");
        }
    }

    private int wouldLearn(Player one) {
        probe.become(one);
        school.practise(probe);
        return probe.skill - one.skill;
    }

    public int weeks(int many) {
        if (many < 1 || many > 20 || school.term.week > WEEK_MOST - many) {
            return refuse(REFUSED_ACT);
        }
        acts.keep(school.term);
        for (int p = 0; p < school.term.pupils; p++) {
            school.passWeeks(school.term.players[p], many);
        }
        school.term.week += many;
        return school.term.week;
    }

    public int door(int pupil, int k) throws NoSuchElementException {
        Player one = needPupil(pupil);
        if (!school.term.couldGo(one, k)) {
            return refuse(REFUSED_ACT);
        }
        acts.keep(school.term);
        school.goThrough(one, k);
        return one.skill;
    }

    public int gloves(int pupil, int less) throws NoSuchElementException {
        Player one = needPupil(pupil);
        if (less < 1 || less > SORE_MOST) {
            return refuse(REFUSED_ACT);
        }
        acts.keep(school.term);
        one.addSore(-less);
        return one.sore;
    }

    public int begin(int pupil, int piece) throws NoSuchElementException {
        Player one = needPupil(pupil);
        needPiece(piece);
        if (one.piece == piece) {
            return refuse(REFUSED_ACT);
        }
        acts.keep(school.term);
        int old = one.piece;
        one.piece = piece;
        one.bars = 0;
        return old;
    }

    public int pianos(int many) {
        if (many < 1 || many > PIANOS_MOST) {
            return refuse(REFUSED_ACT);
        }
        acts.keep(school.term);
        int old = school.term.pianos;
        school.term.pianos = many;
        return old;
    }

    public int undo() {
        if (acts.kept == 0) {
            return NONE;
        }
        acts.takeBack(school.term);
        return acts.kept;
    }

    public int then(int pupil, int weeks, int what) throws NoSuchElementException, IllegalArgumentException {
        Player one = needPupil(pupil);
        needWhat(what, 2);
        needBetween(weeks, 0, FORESIGHT);
        probe.become(one);
        school.passWeeks(probe, weeks);
        if (what == 0) {
            return probe.skill;
        }
        return what == 1 ? probe.bars : probe.sore;
    }

    public int done(int pupil) throws NoSuchElementException {
        return weeksTillDone(needPupil(pupil));
    }

    private int weeksTillDone(Player one) {
        probe.become(one);
        for (int w = 0; w <= FORESIGHT; w++) {
            if (school.isDone(probe)) {
                return w;
            }
            school.passWeeks(probe, 1);
        }
        return NONE;
    }

    public int heard(int weeks) throws IllegalArgumentException {
        needBetween(weeks, 0, FORESIGHT);
        int sum = 0;
        for (int p = 0; p < school.term.pupils; p++) {
            Player one = school.term.players[p];
            probe.become(one);
            school.passWeeks(probe, weeks);
            sum += probe.bars - one.bars;
        }
        return sum;
    }

    public int best(int weeks) throws IllegalArgumentException {
        needBetween(weeks, 0, FORESIGHT);
        return whoHasMost(weeks, false);
    }

    /** Who has most skill behind so many weeks, or is most sore. */
    private int whoHasMost(int weeks, boolean ofSore) {
        int who = NONE;
        int most = NONE;
        for (int p = 0; p < school.term.pupils; p++) {
            probe.become(school.term.players[p]);
            school.passWeeks(probe, weeks);
            int has = ofSore ? probe.sore : probe.skill;
            if (has > most) {
                most = has;
                who = p;
            }
        }
        return who;
    }

    public int stuck() {
        int bits = 0;
        for (int p = 0; p < school.term.pupils; p++) {
            if (weeksTillDone(school.term.players[p]) == NONE) {
                bits |= 1 << p;
            }
        }
        return bits;
    }

    public int free(int pupil) throws NoSuchElementException {
        return school.term.openTo(needPupil(pupil));
    }

    public int nobody(int weeks) throws IllegalArgumentException {
        needBetween(weeks, 1, DOOR_REACH);
        int pupils = school.term.pupils;
        return pupils == 0 ? 0 : weeksWithAway(weeks, (1 << pupils) - 1);
    }

    private int weeksWithAway(int weeks, int bits) {
        int many = 0;
        for (int k = 1; k <= weeks; k++) {
            if (school.term.awayIn(k) == bits) {
                many++;
            }
        }
        return many;
    }

    public int through(int pupil) throws NoSuchElementException {
        Player one = needPupil(pupil);
        int open = school.term.openTo(one);
        probe.become(one);
        for (int times = 0; times <= DOOR_REACH; times++) {
            if (probe.skill >= school.nextHard(probe)) {
                return times;
            }
            if (open == 0) {
                return NONE;
            }
            open = goToLast(open);
        }
        return NONE;
    }

    /** The probe goes to the last week of those that are open: which are open then. */
    private int goToLast(int open) {
        int last = Integer.highestOneBit(open);
        school.goThrough(probe, Integer.numberOfTrailingZeros(last) + 1);
        return open & ~last;
    }

    public int toBeDone(int pupil, int weeks) throws NoSuchElementException, IllegalArgumentException {
        Player one = needPupil(pupil);
        needBetween(weeks, 0, DOOR_REACH);
        int open = school.term.openTo(one);
        probe.become(one);
        for (int times = 0; times <= DOOR_REACH; times++) {
            trial.become(probe);
            school.passWeeks(trial, weeks);
            if (school.isDone(trial)) {
                return times;
            }
            if (open == 0) {
                return NONE;
            }
            open = goToLast(open);
        }
        return NONE;
    }

    public int fits(int pupil, int piece) throws NoSuchElementException {
        Player one = needPupil(pupil);
        needPiece(piece);
        return school.barsThatFit(one.skill, piece);
    }

    public int repertoire(int pupil) throws NoSuchElementException {
        Player one = needPupil(pupil);
        int bits = 0;
        for (int i = 0; i < school.pieces; i++) {
            if (school.barsThatFit(one.skill, i) == school.bars[i]) {
                bits |= 1 << i;
            }
        }
        return bits;
    }

    public int choice(int pupil) throws NoSuchElementException {
        if (pupil != NONE) {
            needPupil(pupil);
        }
        chooser.weigh(school);
        return pupil == NONE ? chooser.most() : chooser.pieceFor(school, pupil);
    }

    public int hardest() {
        int which = NONE;
        int most = 0;
        for (int piece = 0; piece < school.pieces; piece++) {
            for (int i = 0; i < school.bars[piece]; i++) {
                if (school.hardOf(piece, i) > most) {
                    most = school.hardOf(piece, i);
                    which = piece;
                }
            }
        }
        return which;
    }

    public int concert(int whom, int i) throws IllegalArgumentException {
        if (i < 0 || whom < 0 || whom > 1) {
            throw new IllegalArgumentException("no such concert");
        }
        int playing = whom == 0 ? whoseIsDone() : (1 << school.term.pupils) - 1;
        for (int p = 0; p < school.term.pupils; p++) {
            if ((playing >> p & 1) == 1 && playAhead(p, playing) == i) {
                return p;
            }
        }
        return NONE;
    }

    private int playAhead(int pupil, int playing) {
        int own = school.term.players[pupil].skill;
        int many = 0;
        for (int p = 0; p < school.term.pupils; p++) {
            int skill = school.term.players[p].skill;
            boolean ahead = skill < own || skill == own && p < pupil;
            if (ahead && (playing >> p & 1) == 1) {
                many++;
            }
        }
        return many;
    }

    public int duet() {
        int couple = NONE;
        int least = SKILL_MOST + 1;
        for (int p = 0; p < school.term.pupils; p++) {
            for (int q = p + 1; q < school.term.pupils; q++) {
                int apart = Math.abs(school.term.players[p].skill - school.term.players[q].skill);
                if (apart < least) {
                    least = apart;
                    couple = 10 * p + q;
                }
            }
        }
        return couple;
    }

    public int next(int pupil) throws NoSuchElementException {
        Player one = needPupil(pupil);
        probe.become(one);
        for (int w = 1; w <= FORESIGHT; w++) {
            school.passWeeks(probe, 1);
            if (probe.bars > one.bars) {
                return w;
            }
        }
        return NONE;
    }

    public int rush(int weeks, int what) throws NoSuchElementException, IllegalArgumentException {
        needWhat(what, 1);
        needBetween(weeks, 1, FORESIGHT);
        tallyBars(weeks);
        int which = 1;
        for (int w = 2; w <= weeks; w++) {
            if (tally[w] > tally[which]) {
                which = w;
            }
        }
        return what == 0 ? which : tally[which];
    }

    private void tallyBars(int weeks) {
        for (int w = 1; w <= weeks; w++) {
            tally[w] = 0;
        }
        for (int p = 0; p < school.term.pupils; p++) {
            probe.become(school.term.players[p]);
            for (int w = 1; w <= weeks; w++) {
                int before = probe.bars;
                school.passWeeks(probe, 1);
                tally[w] += probe.bars - before;
            }
        }
    }

    public int sorest(int weeks) throws IllegalArgumentException {
        needBetween(weeks, 0, FORESIGHT);
        return whoHasMost(weeks, true);
    }

    public int toGlove(int pupil) throws NoSuchElementException {
        Player one = needPupil(pupil);
        for (int less = 0; less <= SORE_MOST; less++) {
            probe.become(one);
            probe.addSore(-less);
            school.passWeeks(probe, 1);
            if (probe.bars > one.bars) {
                return less;
            }
        }
        return NONE;
    }

    public int full(int k) throws IllegalArgumentException {
        needBetween(k, 1, DOOR_REACH);
        return school.term.awayIn(k);
    }

    public int empty(int weeks) throws IllegalArgumentException {
        needBetween(weeks, 1, DOOR_REACH);
        return weeksWithAway(weeks, 0);
    }

    public int common(int piece, int other) throws NoSuchElementException {
        needPiece(piece);
        needPiece(other);
        return school.longestCommonRow(piece, other);
    }

    public int work(int piece) throws NoSuchElementException {
        needPiece(piece);
        int sum = 0;
        for (int i = 0; i < school.bars[piece]; i++) {
            sum += school.hardOf(piece, i);
        }
        return sum;
    }

    public int mates(int pupil) throws NoSuchElementException {
        Player one = needPupil(pupil);
        int bits = 0;
        for (int p = 0; p < school.term.pupils; p++) {
            if (p != pupil && school.term.players[p].piece == one.piece) {
                bits |= 1 << p;
            }
        }
        return bits;
    }

    public int see(int pupil, int weeks, int bars) throws NoSuchElementException {
        needPupil(pupil);
        boolean told = weeks >= 1 && weeks <= GUESS_REACH && bars >= 0 && bars <= BARS_MOST;
        if (!told || seen.size >= SEEN_MOST) {
            return refuse(REFUSED_SEEN);
        }
        seen.add(pupil, weeks, bars);
        return seen.size;
    }

    public int been(int what) throws NoSuchElementException {
        needWhat(what, 2);
        search.look(school, seen);
        if (what == 0) {
            return search.howMany();
        }
        if (what == 1) {
            return search.first();
        }
        return search.wrong == 0 ? 1 : 0;
    }

    public int listen(int what) throws NoSuchElementException {
        needWhat(what, 1);
        search.look(school, seen);
        int who = NONE;
        int most = 0;
        for (int p = 0; p < school.term.pupils; p++) {
            int unlike = search.unlikeSkills(school, p);
            if (unlike > most) {
                most = unlike;
                who = p;
            }
        }
        return what == 0 ? who : most;
    }

    public void forget() {
        seen.clear();
    }

    public int game(int pupil, int other, int what) throws NoSuchElementException, IllegalArgumentException {
        needPupil(pupil);
        needPupil(other);
        needWhat(what, 1);
        if (pupil == other) {
            throw new IllegalArgumentException("both are one");
        }
        duel.weigh(school, pupil, other);
        int many = 0;
        int first = NONE;
        for (int couple = 0; couple < 4; couple++) {
            int a = couple >> 1;
            int b = couple & 1;
            if (duel.isAtRest(a, b)) {
                first = many == 0 ? 10 * a + b : first;
                many++;
            }
        }
        return what == 0 ? many : first;
    }

    public int years(int seed, int n, int what) throws NoSuchElementException, IllegalArgumentException {
        needWhat(what, 2);
        needBetween(n, 0, FORESIGHT);
        this.seed = seed;
        dream.become(school.term);
        for (int w = 0; w < n; w++) {
            if (dream.pupils > 0) {
                dreamOfChance();
            }
            for (int p = 0; p < dream.pupils; p++) {
                school.passWeeks(dream.players[p], 1);
            }
        }
        if (what == 0) {
            return dream.barsOfAll() - school.term.barsOfAll();
        }
        return what == 1 ? piecesDoneInDream() : dream.skillOfAll();
    }

    private void dreamOfChance() {
        int chance = draw(5);
        if (chance > 2) {
            return;
        }
        int p = draw(dream.pupils);
        if (p < 0 || p >= PUPILS_MOST) {
            return;
        }
        Player one = dream.players[p];
        if (chance == 0) {
            int k = draw(DOOR_REACH) + 1;
            if (dream.couldGo(one, k)) {
                school.goThrough(one, k);
            }
        } else {
            one.addSore(chance == 1 ? 3 : -3);
        }
    }

    private int draw(int n) {
        seed = seed * 1103515245 + 12345;
        return n < 1 ? 0 : (seed >>> 16 & 32767) % n;
    }

    private int piecesDoneInDream() {
        int many = 0;
        for (int p = 0; p < dream.pupils; p++) {
            if (school.isDone(dream.players[p])) {
                many++;
            }
        }
        return many;
    }

    public void image() {
        school.term.write(image.row, 0);
        image.acts.become(acts);
        image.seen.become(seen);
        System.arraycopy(status, 0, image.status, 0, status.length);
        image.kept = true;
    }

    public boolean restore() {
        if (!image.kept) {
            return false;
        }
        school.term.read(image.row, 0);
        acts.become(image.acts);
        seen.become(image.seen);
        System.arraycopy(image.status, 0, status, 0, status.length);
        return true;
    }

    private int refuse(int which) {
        status[which]++;
        return NONE;
    }

    private Player needPupil(int pupil) {
        if (pupil < 0 || pupil >= school.term.pupils) {
            throw new NoSuchElementException("no such pupil");
        }
        return school.term.players[pupil];
    }

    private void needPiece(int piece) {
        if (piece < 0 || piece >= school.pieces) {
            throw new NoSuchElementException("no such piece");
        }
    }

    private static void needWhat(int what, int most) {
        if (what < 0 || what > most) {
            throw new NoSuchElementException("no such what");
        }
    }

    private static void needBetween(int number, int least, int most) {
        if (number < least || number > most) {
            throw new IllegalArgumentException("a number that is too small or too large");
        }
    }

    /** One pupil, or a copy that lives through weeks that aren't there yet. */
    private static final class Player {
        static final int ROW = 5;

        int skill;
        int sore;
        int piece;
        int bars;
        int away;
        int prodigy;

        void become(Player other) {
            skill = other.skill;
            sore = other.sore;
            piece = other.piece;
            bars = other.bars;
            away = other.away;
            prodigy = other.prodigy;
        }

        void write(int[] rows, int from) {
            if (from < 0 || from > rows.length - ROW) {
                return;
            }
            rows[from] = skill;
            rows[from + 1] = sore;
            rows[from + 2] = piece;
            rows[from + 3] = bars;
            rows[from + 4] = away;
        }

        void read(int[] rows, int from) {
            if (from < 0 || from > rows.length - ROW) {
                return;
            }
            skill = rows[from];
            sore = rows[from + 1];
            piece = rows[from + 2];
            bars = rows[from + 3];
            away = rows[from + 4];
        }

        void addSore(int more) {
            sore = Math.max(0, Math.min(SORE_MOST, sore + more));
        }

        boolean isAwayIn(int k) {
            return (away >> (k - 1) & 1) == 1;
        }
    }

    /** All that weeks and acts change. */
    private static final class Term {
        static final int ROW = PUPILS_MOST * Player.ROW + 2;

        final Player[] players = new Player[PUPILS_MOST];
        int pupils;
        int week;
        int pianos = 2;

        Term() {
            for (int p = 0; p < PUPILS_MOST; p++) {
                players[p] = new Player();
            }
        }

        void clear() {
            pupils = 0;
            week = 0;
            pianos = 2;
        }

        void become(Term other) {
            pupils = other.pupils;
            week = other.week;
            pianos = other.pianos;
            for (int p = 0; p < pupils; p++) {
                players[p].become(other.players[p]);
            }
        }

        void write(int[] rows, int from) {
            if (from < 0 || from > rows.length - ROW) {
                return;
            }
            rows[from] = week;
            rows[from + 1] = pianos;
            for (int p = 0; p < pupils; p++) {
                players[p].write(rows, from + 2 + p * Player.ROW);
            }
        }

        void read(int[] rows, int from) {
            if (from < 0 || from > rows.length - ROW) {
                return;
            }
            week = rows[from];
            pianos = rows[from + 1];
            for (int p = 0; p < pupils; p++) {
                players[p].read(rows, from + 2 + p * Player.ROW);
            }
        }

        int awayIn(int k) {
            int bits = 0;
            for (int p = 0; p < pupils; p++) {
                if (players[p].isAwayIn(k)) {
                    bits |= 1 << p;
                }
            }
            return bits;
        }

        int pianosLeftIn(int k) {
            return pianos - Integer.bitCount(awayIn(k));
        }

        boolean couldGo(Player one, int k) {
            return k >= 1 && k <= DOOR_REACH && !one.isAwayIn(k) && pianosLeftIn(k) > 0;
        }

        int openTo(Player one) {
            int bits = 0;
            for (int k = 1; k <= DOOR_REACH; k++) {
                if (couldGo(one, k)) {
                    bits |= 1 << (k - 1);
                }
            }
            return bits;
        }

        int skillOfAll() {
            int sum = 0;
            for (int p = 0; p < pupils; p++) {
                sum += players[p].skill;
            }
            return sum;
        }

        int barsOfAll() {
            int sum = 0;
            for (int p = 0; p < pupils; p++) {
                sum += players[p].bars;
            }
            return sum;
        }
    }

    /** What a text tells: the pieces, the rule, the pupils; and how a pupil learns by these. */
    private static final class School {
        final int[] bars = new int[PIECES_MOST];
        final int[] study = new int[PIECES_MOST];
        final int[] hard = new int[PIECES_MOST * BARS_MOST];
        int pieces;
        final Rule rule = new Rule();
        final Term term = new Term();
        final int[] values = new int[Rule.VALUES];
        final int[] rowAbove = new int[BARS_MOST + 1];
        final int[] rowHere = new int[BARS_MOST + 1];

        void clear() {
            pieces = 0;
            rule.clear();
            term.clear();
        }

        /** How hard a bar is; 0 if there is none. */
        int hardOf(int piece, int i) {
            if (piece < 0 || piece >= pieces || i < 0 || i >= bars[piece]) {
                return 0;
            }
            return hard[piece * BARS_MOST + i];
        }

        int barsOf(int piece) {
            return piece < 0 || piece >= pieces ? 0 : bars[piece];
        }

        private boolean isStudy(int piece) {
            return piece >= 0 && piece < pieces && study[piece] == 1;
        }

        int steps(int piece) {
            int most = 0;
            for (int i = 1; i < barsOf(piece); i++) {
                most = Math.max(most, hardOf(piece, i) - hardOf(piece, i - 1));
            }
            return most;
        }

        int barsThatFit(int skill, int piece) {
            int many = 0;
            while (many < barsOf(piece) && hardOf(piece, many) <= skill) {
                many++;
            }
            return many;
        }

        int longestCommonRow(int piece, int other) {
            for (int j = 0; j <= BARS_MOST; j++) {
                rowAbove[j] = 0;
                rowHere[j] = 0;
            }
            int width = barsOf(other);
            for (int i = 0; i < barsOf(piece); i++) {
                for (int j = 0; j < width; j++) {
                    boolean same = hardOf(piece, i) == hardOf(other, j);
                    rowHere[j + 1] = same ? rowAbove[j] + 1 : Math.max(rowAbove[j + 1], rowHere[j]);
                }
                System.arraycopy(rowHere, 0, rowAbove, 0, rowHere.length);
            }
            return rowAbove[width];
        }

        boolean isDone(Player one) {
            return one.bars >= barsOf(one.piece);
        }

        int nextHard(Player one) {
            return hardOf(one.piece, one.bars);
        }

        void practise(Player one) {
            // Nothing can be added, and the rule, which may be long, needn't be asked.
            if (one.skill >= SKILL_MOST) {
                return;
            }
            int more = 5 - one.sore / 2;
            if (rule.isTold) {
                values[Rule.SKILL] = one.skill;
                values[Rule.SORE] = one.sore;
                values[Rule.HARD] = nextHard(one);
                values[Rule.BAR] = one.bars;
                values[Rule.BARS] = barsOf(one.piece);
                values[Rule.AWAY] = Integer.bitCount(one.away);
                more = Math.max(0, Math.min(LEARNT_MOST, rule.value(values)));
            }
            int all = one.prodigy == 1 ? more + more : more;
            one.skill = Math.min(SKILL_MOST, one.skill + all);
        }

        private void haveLesson(Player one) {
            int most = isStudy(one.piece) ? BARS_MOST : 1;
            for (int i = 0; i < most && !isDone(one) && one.skill >= nextHard(one); i++) {
                one.bars++;
            }
        }

        void passWeeks(Player one, int weeks) {
            for (int w = 0; w < weeks; w++) {
                if (!one.isAwayIn(1)) {
                    practise(one);
                    haveLesson(one);
                    one.addSore(-1);
                }
                one.away = one.away >>> 1;
            }
        }

        void goThrough(Player one, int k) {
            practise(one);
            one.addSore(2);
            one.away |= 1 << (k - 1);
        }
    }

    /** What a pupil learns in a week, as a row of codes: each puts a number on a stack, or works on those there. */
    private static final class Rule {
        static final int VALUES = 6;
        static final int SKILL = 0;
        static final int SORE = 1;
        static final int HARD = 2;
        static final int BAR = 3;
        static final int BARS = 4;
        static final int AWAY = 5;

        // Codes below FIRST_VALUE are numbers of the text, which has none of more than four digits.
        static final int FIRST_VALUE = 10000;
        static final int FIRST_OPERATOR = 20000;
        static final int OR = 20000;
        static final int AND = 20001;
        static final int NOT = 20002;
        static final int LESS = 20003;
        static final int SAME = 20004;
        static final int PLUS = 20005;
        static final int MINUS = 20006;
        static final int TIMES = 20007;
        static final int OVER = 20008;

        final int[] codes = new int[TAPE_MOST];
        int size;
        boolean isTold;
        // Six expressions within one another leave at most five numbers each waiting.
        final int[] stack = new int[64];

        void clear() {
            size = 0;
            isTold = false;
        }

        void add(int code) {
            if (size < codes.length) {
                codes[size] = code;
                size++;
            }
        }

        int value(int[] values) {
            int top = 0;
            for (int i = 0; i < size; i++) {
                int code = codes[i];
                if (code < FIRST_OPERATOR) {
                    if (top >= stack.length) {
                        return 0;
                    }
                    stack[top] = code < FIRST_VALUE ? code : values[code - FIRST_VALUE];
                    top++;
                } else if (code == NOT) {
                    if (top < 1) {
                        return 0;
                    }
                    stack[top - 1] = stack[top - 1] == 0 ? 1 : 0;
                } else {
                    if (top < 2) {
                        return 0;
                    }
                    top--;
                    stack[top - 1] = ofTwo(code, stack[top - 1], stack[top]);
                }
            }
            return top < 1 ? 0 : stack[0];
        }

        private static int ofTwo(int operator, int a, int b) {
            switch (operator) {
                case OR: return a != 0 || b != 0 ? 1 : 0;
                case AND: return a != 0 && b != 0 ? 1 : 0;
                case LESS: return a < b ? 1 : 0;
                case SAME: return a == b ? 1 : 0;
                case PLUS: return a + b;
                case MINUS: return a - b;
                case TIMES: return a * b;
                default: return b == 0 ? 0 : a / b;
            }
        }
    }

    /** Reads a text, a token at a time, up to its first fault. */
    private static final class Reader {
        static final int END = 0;
        static final int NUMBER = 1;
        static final int WORD = 2;
        static final int SIGN = 3;
        static final int STOPPED = 4;

        static final int WRONG = 1;
        static final int TOO_MUCH = 2;
        static final int UNKNOWN = 3;
        static final int SECOND = 5;

        // The levels of an expression, each made of the next one's.
        static final int ORS = 0;
        static final int ANDS = 1;
        static final int NOTS = 2;
        static final int TESTS = 3;
        static final int SUMS = 4;
        static final int PRODUCTS = 5;
        static final int PARTS = 6;

        static final int DEPTH_MOST = 6;
        static final int NOTS_MOST = 6;

        static final int DIGITS_MOST = 4;
        static final int NUMBER_MOST = 9999;

        // The tape.
        final byte[] text = new byte[TAPE_MOST];
        int length;
        // A text with a fault must change nothing, so each is read into a school of its own.
        School school = new School();
        int kind;
        int start;
        int end;
        int number;
        int sign;
        int fault;
        int place;
        boolean pianosTold;

        /** Leaves the fault, or 0, and its place, or NONE. */
        void readSchool(int size) {
            length = Math.max(0, Math.min(size, text.length));
            school.clear();
            end = 0;
            fault = 0;
            place = NONE;
            pianosTold = false;
            advance();
            for (int lines = 0; lines < TAPE_MOST && kind != END && fault == 0; lines++) {
                readLine();
            }
        }

        private void readLine() {
            if (isWord("piece") || isWord("study")) {
                readPiece();
            } else if (isWord("pupil") || isWord("prodigy")) {
                readPupil();
            } else if (isWord("pianos")) {
                readPianos();
            } else if (isWord("learns")) {
                readLearns();
            } else {
                stop(WRONG);
            }
            skipSign(';');
        }

        private void readPiece() {
            int piece = school.pieces;
            if (piece >= PIECES_MOST) {
                stop(TOO_MUCH);
                return;
            }
            school.study[piece] = isWord("study") ? 1 : 0;
            school.bars[piece] = 0;
            advance();
            readBar(piece);
            for (int i = 1; i <= BARS_MOST && kind == NUMBER; i++) {
                readBar(piece);
            }
            school.pieces++;
        }

        private void readBar(int piece) {
            int i = school.bars[piece];
            if (kind == NUMBER && i >= BARS_MOST) {
                stop(TOO_MUCH);
                return;
            }
            int hard = readNumber(1, HARD_MOST);
            if (i < BARS_MOST) {
                school.hard[piece * BARS_MOST + i] = hard;
                school.bars[piece]++;
            }
        }

        private void readPupil() {
            int pupil = school.term.pupils;
            if (pupil >= PUPILS_MOST) {
                stop(TOO_MUCH);
                return;
            }
            Player one = school.term.players[pupil];
            one.prodigy = isWord("prodigy") ? 1 : 0;
            advance();
            one.skill = readNumber(0, SKILL_MOST);
            one.sore = readNumber(0, SORE_MOST);
            if (kind == NUMBER && end - start <= DIGITS_MOST && number >= school.pieces) {
                stop(UNKNOWN);
            }
            one.piece = readNumber(0, PIECES_MOST);
            one.bars = 0;
            one.away = 0;
            school.term.pupils++;
        }

        private void readPianos() {
            if (pianosTold) {
                stop(SECOND);
                return;
            }
            pianosTold = true;
            advance();
            school.term.pianos = readNumber(1, PIANOS_MOST);
        }

        private void readLearns() {
            if (school.rule.isTold) {
                stop(SECOND);
                return;
            }
            school.rule.isTold = true;
            advance();
            readLevel(ORS, 0);
        }

        /** One level of an expression that stands within so many others. */
        private void readLevel(int level, int depth) {
            if (depth >= DEPTH_MOST) {
                stop(kind == NUMBER || kind == WORD || isSign('(') ? TOO_MUCH : WRONG);
                return;
            }
            if (level >= PARTS) {
                readPart(depth);
                return;
            }
            int nots = level == NOTS ? skipNots() : 0;
            readLevel(level + 1, depth);
            for (int i = 0; i < nots; i++) {
                school.rule.add(Rule.NOT);
            }
            int most = level == TESTS ? 1 : TAPE_MOST;
            int operator = operatorHere(level);
            for (int i = 0; i < most && operator != NONE; i++) {
                advance();
                readLevel(level + 1, depth);
                school.rule.add(operator);
                operator = operatorHere(level);
            }
        }

        private int skipNots() {
            int nots = 0;
            while (nots < NOTS_MOST && isWord("not")) {
                advance();
                nots++;
            }
            if (isWord("not") && nots == NOTS_MOST) {
                stop(TOO_MUCH);
            }
            return nots;
        }

        private int operatorHere(int level) {
            switch (level) {
                case ORS: return isWord("or") ? Rule.OR : NONE;
                case ANDS: return isWord("and") ? Rule.AND : NONE;
                case TESTS: return isSign('<') ? Rule.LESS : isSign('=') ? Rule.SAME : NONE;
                case SUMS: return isSign('+') ? Rule.PLUS : isSign('-') ? Rule.MINUS : NONE;
                case PRODUCTS: return isSign('*') ? Rule.TIMES : isSign('/') ? Rule.OVER : NONE;
                default: return NONE;
            }
        }

        private void readPart(int depth) {
            if (kind == NUMBER) {
                school.rule.add(readNumber(0, NUMBER_MOST));
            } else if (kind == WORD && valueHere() == NONE) {
                stop(UNKNOWN);
            } else if (kind == WORD) {
                school.rule.add(Rule.FIRST_VALUE + valueHere());
                advance();
            } else if (isSign('(')) {
                advance();
                readLevel(ORS, depth + 1);
                skipSign(')');
            } else {
                stop(WRONG);
            }
        }

        private int valueHere() {
            if (isWord("skill")) {
                return Rule.SKILL;
            }
            if (isWord("sore")) {
                return Rule.SORE;
            }
            if (isWord("hard")) {
                return Rule.HARD;
            }
            if (isWord("bar")) {
                return Rule.BAR;
            }
            if (isWord("bars")) {
                return Rule.BARS;
            }
            return isWord("away") ? Rule.AWAY : NONE;
        }

        private int readNumber(int least, int most) {
            if (kind != NUMBER) {
                stop(WRONG);
                return 0;
            }
            if (end - start > DIGITS_MOST || number < least || number > most) {
                stop(TOO_MUCH);
                return 0;
            }
            int told = number;
            advance();
            return told;
        }

        private void skipSign(char sign) {
            if (isSign(sign)) {
                advance();
            } else {
                stop(WRONG);
            }
        }

        /** Only the first fault counts; behind it no token is any kind that could stand somewhere. */
        private void stop(int why) {
            if (fault == 0) {
                fault = why;
                place = start;
            }
            kind = STOPPED;
        }

        private boolean isSign(char which) {
            return kind == SIGN && sign == which;
        }

        private boolean isWord(String word) {
            if (kind != WORD || end - start != word.length()) {
                return false;
            }
            for (int i = start; i < end; i++) {
                if (text[i] != word.charAt(i - start)) {
                    return false;
                }
            }
            return true;
        }

        /** Goes on to the next token. A byte that begins none counts as a sign: no place has room for it. */
        private void advance() {
            if (fault != 0) {
                return;
            }
            start = end;
            while (start < length && (text[start] == ' ' || text[start] == '\n')) {
                start++;
            }
            end = start;
            while (end < length && text[end] >= 'a' && text[end] <= 'z') {
                end++;
            }
            if (end > start) {
                kind = WORD;
                return;
            }
            number = 0;
            while (end < length && text[end] >= '0' && text[end] <= '9') {
                number = number * 10 + text[end] - '0';
                end++;
            }
            if (end > start) {
                kind = NUMBER;
            } else if (start >= length) {
                kind = END;
            } else {
                kind = SIGN;
                sign = text[start];
                end++;
            }
        }
    }

    /** The latest acts, each as what was there ahead of it. */
    private static final class Acts {
        final int[] rows = new int[ACTS_MOST * Term.ROW];
        int first;
        int kept;

        void clear() {
            first = 0;
            kept = 0;
        }

        void become(Acts other) {
            System.arraycopy(other.rows, 0, rows, 0, rows.length);
            first = other.first;
            kept = other.kept;
        }

        void keep(Term term) {
            term.write(rows, (first + kept) % ACTS_MOST * Term.ROW);
            if (kept < ACTS_MOST) {
                kept++;
            } else {
                first = (first + 1) % ACTS_MOST;
            }
        }

        void takeBack(Term term) {
            if (kept > 0) {
                kept--;
                term.read(rows, (first + kept) % ACTS_MOST * Term.ROW);
            }
        }
    }

    /** What was seen: that a pupil had so many bars done behind so many weeks. */
    private static final class Seen {
        final int[] pupil = new int[SEEN_MOST];
        final int[] weeks = new int[SEEN_MOST];
        final int[] bars = new int[SEEN_MOST];
        int size;

        void clear() {
            size = 0;
        }

        void become(Seen other) {
            size = other.size;
            for (int i = 0; i < size; i++) {
                pupil[i] = other.pupil[i];
                weeks[i] = other.weeks[i];
                bars[i] = other.bars[i];
            }
        }

        void add(int whom, int when, int many) {
            if (size < SEEN_MOST) {
                pupil[size] = whom;
                weeks[size] = when;
                bars[size] = many;
                size++;
            }
        }

        int lastWeekOf(int whom) {
            int last = 0;
            for (int i = 0; i < size; i++) {
                if (pupil[i] == whom) {
                    last = Math.max(last, weeks[i]);
                }
            }
            return last;
        }

        boolean speaksAgainst(int whom, int when, int many) {
            for (int i = 0; i < size; i++) {
                if (pupil[i] == whom && weeks[i] == when && bars[i] != many) {
                    return true;
                }
            }
            return false;
        }
    }

    /** What an image keeps. */
    private static final class Image {
        boolean kept;
        final int[] row = new int[Term.ROW];
        final Acts acts = new Acts();
        final Seen seen = new Seen();
        final int[] status = new int[3];
    }

    /** Who might have been away in which week, by what was seen. */
    private static final class Search {
        final int[] suspectWeeks = new int[PUPILS_MOST];
        int pupils;
        // Pupils (bits) of whom something seen isn't so, if nobody else was away.
        int wrong;
        final Player guess = new Player();
        final boolean[] met = new boolean[SKILL_MOST + 1];

        void look(School school, Seen seen) {
            pupils = school.term.pupils;
            wrong = 0;
            for (int p = 0; p < pupils; p++) {
                if (!agrees(school, seen, p, 0)) {
                    wrong |= 1 << p;
                }
            }
            for (int p = 0; p < pupils; p++) {
                // One pupil's weeks change nothing for the others, whose own must be right already.
                boolean othersRight = (wrong & ~(1 << p)) == 0;
                suspectWeeks[p] = othersRight ? weeksThatAgree(school, seen, p) : 0;
            }
        }

        private int weeksThatAgree(School school, Seen seen, int pupil) {
            int bits = 0;
            for (int w = 1; w <= GUESS_REACH; w++) {
                if (!school.term.players[pupil].isAwayIn(w) && agrees(school, seen, pupil, w)) {
                    bits |= 1 << (w - 1);
                }
            }
            return bits;
        }

        private void guessAway(School school, int pupil, int week) {
            guess.become(school.term.players[pupil]);
            if (week > 0) {
                guess.away |= 1 << (week - 1);
            }
        }

        /** Whether all that was seen of a pupil would be so, were one away in that week too (0: in none). */
        private boolean agrees(School school, Seen seen, int pupil, int week) {
            guessAway(school, pupil, week);
            int last = seen.lastWeekOf(pupil);
            for (int w = 1; w <= last; w++) {
                school.passWeeks(guess, 1);
                if (seen.speaksAgainst(pupil, w, guess.bars)) {
                    return false;
                }
            }
            return true;
        }

        int howMany() {
            int many = 0;
            for (int p = 0; p < pupils; p++) {
                many += Integer.bitCount(suspectWeeks[p]);
            }
            return many;
        }

        int first() {
            for (int p = 0; p < pupils; p++) {
                if (suspectWeeks[p] != 0) {
                    return 100 * p + Integer.numberOfTrailingZeros(suspectWeeks[p]) + 1;
                }
            }
            return NONE;
        }

        int unlikeSkills(School school, int pupil) {
            for (int skill = 0; skill < met.length; skill++) {
                met[skill] = false;
            }
            int many = 0;
            if (howMany() > Integer.bitCount(suspectWeeks[pupil])) {
                many += meet(school, pupil, 0);
            }
            for (int w = 1; w <= GUESS_REACH; w++) {
                if ((suspectWeeks[pupil] >> (w - 1) & 1) == 1) {
                    many += meet(school, pupil, w);
                }
            }
            return many;
        }

        /** 1 if the skill that a guess leads to wasn't met ahead of it. */
        private int meet(School school, int pupil, int week) {
            guessAway(school, pupil, week);
            school.passWeeks(guess, GUESS_REACH);
            int skill = guess.skill;
            if (skill < 0 || skill >= met.length || met[skill]) {
                return 0;
            }
            met[skill] = true;
            return 1;
        }
    }

    /** Which pupil should have which piece, so that the bars that fit are most. */
    private static final class Chooser {
        static final int SETS = 1 << PIECES_MOST;

        // By a pupil and a set of pieces: how many bars this one and those behind could have without that set.
        final int[] most = new int[(PUPILS_MOST + 1) * SETS];
        final int[] fit = new int[PUPILS_MOST * PIECES_MOST];

        void weigh(School school) {
            int pupils = school.term.pupils;
            for (int taken = 0; taken < SETS; taken++) {
                most[pupils * SETS + taken] = 0;
            }
            for (int p = pupils - 1; p >= 0; p--) {
                for (int piece = 0; piece < school.pieces; piece++) {
                    fit[p * PIECES_MOST + piece] = school.barsThatFit(school.term.players[p].skill, piece);
                }
                for (int taken = 0; taken < SETS; taken++) {
                    most[p * SETS + taken] = mostOf(school.pieces, p, taken);
                }
            }
        }

        private int mostOf(int pieces, int pupil, int taken) {
            int best = most[(pupil + 1) * SETS + taken];
            for (int piece = 0; piece < pieces; piece++) {
                if ((taken >> piece & 1) == 0) {
                    best = Math.max(best, mostWith(pupil, piece, taken));
                }
            }
            return best;
        }

        private int mostWith(int pupil, int piece, int taken) {
            return fit[pupil * PIECES_MOST + piece] + most[(pupil + 1) * SETS + (taken | 1 << piece)];
        }

        int most() {
            return most[0];
        }

        int pieceFor(School school, int pupil) {
            int taken = 0;
            int chosen = NONE;
            for (int p = 0; p <= pupil && p < PUPILS_MOST; p++) {
                chosen = firstOfMost(school.pieces, p, taken);
                taken = chosen == NONE ? taken : taken | 1 << chosen;
            }
            return chosen;
        }

        private int firstOfMost(int pieces, int pupil, int taken) {
            for (int piece = 0; piece < pieces; piece++) {
                boolean left = (taken >> piece & 1) == 0;
                if (left && mostWith(pupil, piece, taken) == most[pupil * SETS + taken]) {
                    return piece;
                }
            }
            return NONE;
        }
    }

    /** A game of two at the next week's piano. */
    private static final class Duel {
        static final int STAY = 0;
        static final int GO = 1;
        static final int ONLY_SORE = 2;

        final boolean[] could = new boolean[2];
        // Of the first one, and from 4 on of the other one: by one's own choice (2) and that of the other (1).
        final int[] gains = new int[8];
        final Player player = new Player();

        void weigh(School school, int pupil, int other) {
            boolean oneLeft = school.term.pianosLeftIn(1) == 1;
            weighSide(school, 0, pupil, oneLeft && pupil > other);
            weighSide(school, 1, other, oneLeft && other > pupil);
        }

        private void weighSide(School school, int side, int pupil, boolean yields) {
            Player one = school.term.players[pupil];
            could[side] = school.term.couldGo(one, 1);
            int stay = gainOf(school, one, STAY);
            int go = gainOf(school, one, GO);
            gains[side * 4] = stay;
            gains[side * 4 + 1] = stay;
            gains[side * 4 + 2] = go;
            gains[side * 4 + 3] = yields ? gainOf(school, one, ONLY_SORE) : go;
        }

        private int gainOf(School school, Player one, int does) {
            player.become(one);
            if (does == GO) {
                school.goThrough(player, 1);
            } else if (does == ONLY_SORE) {
                player.addSore(2);
            }
            school.passWeeks(player, GAME_WEEKS);
            return player.bars - one.bars;
        }

        boolean isAtRest(int a, int b) {
            return isContent(0, a, b) && isContent(1, b, a);
        }

        /** Whether one side can choose so, and gains no more by the other choice. */
        private boolean isContent(int side, int own, int others) {
            if (!could[side]) {
                return own == 0;
            }
            return gains[side * 4 + own * 2 + others] >= gains[side * 4 + (1 - own) * 2 + others];
        }
    }
}
