/** Promises 39 to 44: what was seen, whom to listen to, a game, years. */
public final class GuessTest {
    private static final String GAME =
        "piece 35 50;pupil 0 0 0;pupil 0 0 0;pupil 0 0 0;pianos 1;learns 20*(sore=2)*(0<skill)+4*(sore=0);";

    public static void main(String[] args) {
        Desk.within(120);
        see();
        been();
        beenIsRelative();
        awayCounts();
        listen();
        game();
        gameOfThoseWhoCannot();
        years();
        yearsByPieces();
        Desk.end();
    }

    private static void see() {
        BaizeDoor x = Desk.told("piece 10 20;pupil 5 0 0;pupil 0 0 0;");
        Desk.due("see(0, 0, 1)", x.see(0, 0, 1), -1);
        Desk.due("see(0, 21, 1)", x.see(0, 21, 1), -1);
        Desk.due("see(0, 1, -1)", x.see(0, 1, -1), -1);
        Desk.due("see(0, 1, 9)", x.see(0, 1, 9), -1);
        Desk.due("status 2", x.count(12), 4);
        Desk.absent("see(2, 0, 0)", () -> x.see(2, 0, 0));
        Desk.absent("see(-1, 1, 0)", () -> x.see(-1, 1, 0));
        Desk.due("status 2 stays", x.count(12), 4);
        Desk.due("see(1, 20, 8)", x.see(1, 20, 8), 1);
        for (int i = 2; i <= 8; i++) Desk.due("see, the " + i + "th", x.see(0, 1, 0), i);
        Desk.due("see, the ninth", x.see(0, 1, 0), -1);
        Desk.due("status 2", x.count(12), 5);
        Desk.due("seen", x.count(8), 8);
        x.forget();
        Desk.due("forgotten", x.count(8), 0);
        Desk.due("status 2 stays", x.count(12), 5);
        Desk.due("see again", x.see(0, 1, 0), 1);
    }

    private static void been() {
        BaizeDoor x = Desk.told("piece 10 20;pupil 0 0 0;pupil 5 0 0;");
        Desk.due("nothing seen: all", x.been(0), 40);
        Desk.due("the first", x.been(1), 1);
        Desk.due("and without", x.been(2), 1);
        x.see(1, 3, 1);
        Desk.due("away in 1, 2 or 3", x.been(0), 3);
        Desk.due("the first", x.been(1), 101);
        Desk.due("not without", x.been(2), 0);
        x.see(1, 1, 1);
        Desk.due("not in 1", x.been(0), 2);
        Desk.due("the first", x.been(1), 102);
        x.see(0, 2, 1);
        Desk.due("that is so without", x.been(0), 2);
        x.see(0, 4, 1);
        Desk.due("not both", x.been(0), 0);
        Desk.due("none", x.been(1), -1);
        Desk.due("nor without", x.been(2), 0);
        x.forget();
        x.see(1, 3, 2);
        Desk.due("without", x.been(2), 1);
        Desk.due("20 of the other one, 17 of one's own", x.been(0), 37);
        x.door(0, 4);
        Desk.due("one in which one is away is none", x.been(0), 36);
        Desk.absent("been(3)", () -> x.been(3));
        Desk.absent("been(-1)", () -> x.been(-1));
    }

    private static void beenIsRelative() {
        BaizeDoor x = Desk.told("piece 10 20;pupil 0 0 0;");
        x.see(0, 2, 1);
        Desk.due("so without", x.been(2), 1);
        Desk.due("not away in 1 or 2", x.been(0), 18);
        x.weeks(2);
        Desk.due("two weeks on, two behind these: 2 bars", x.been(2), 0);
        Desk.due("if away in 1 or 2", x.been(0), 2);
    }

    private static void awayCounts() {
        BaizeDoor x = Desk.told("piece 3;pupil 0 0 0;learns away;");
        x.see(0, 3, 1);
        Desk.due("not without", x.been(2), 0);
        Desk.due("1 a week, up to the week", x.been(1), 4);
        Desk.due("from 4 on", x.been(0), 17);
    }

    private static void listen() {
        BaizeDoor x = Desk.told("piece 50;pupil 0 0 0;pupil 0 0 0;learns away;");
        Desk.due("0 to 19", x.listen(1), 20);
        Desk.due("of like ones the least", x.listen(0), 0);
        x.door(0, 5);
        Desk.due("39 are left", x.been(0), 39);
        Desk.due("the other one", x.listen(0), 1);
        Desk.due("20", x.listen(1), 20);
        x.see(0, 20, 8);
        Desk.due("none", x.listen(0), -1);
        Desk.due("of none", x.listen(1), 0);
        Desk.absent("listen(2)", () -> x.listen(2));
        Desk.absent("listen(-1)", () -> x.listen(-1));
        BaizeDoor y = Desk.told("piece 10 20;pupil 0 0 0;pupil 5 0 0;learns 1;");
        y.see(1, 4, 0);
        Desk.due("20 of each", y.been(0), 40);
        Desk.due("19 or 20", y.listen(1), 2);
        Desk.due("of both", y.listen(0), 0);
        y.see(0, 10, 0);
        Desk.due("10 of pupil 0", y.been(0), 10);
        Desk.due("pupil 0 has 19, pupil 1 has 25", y.listen(1), 1);
    }

    private static void game() {
        BaizeDoor x = Desk.told(GAME);
        Desk.due("game(0, 1, 0)", x.game(0, 1, 0), 1);
        Desk.due("the lesser one goes", x.game(0, 1, 1), 10);
        Desk.due("game(1, 0, 0)", x.game(1, 0, 0), 1);
        Desk.due("the lesser one goes", x.game(1, 0, 1), 1);
        x.pianos(2);
        Desk.due("game(0, 1, 0)", x.game(0, 1, 0), 1);
        Desk.due("both go", x.game(0, 1, 1), 11);
        Desk.absent("game(3, 0, 0)", () -> x.game(3, 0, 0));
        Desk.absent("game(0, 3, 0)", () -> x.game(0, 3, 0));
        Desk.absent("game(-1, -1, 0)", () -> x.game(-1, -1, 0));
        Desk.absent("game(0, 0, 2)", () -> x.game(0, 0, 2));
        Desk.absent("game(0, 1, -1)", () -> x.game(0, 1, -1));
        Desk.illegal("game(0, 0, 0)", () -> x.game(0, 0, 0));
        BaizeDoor y = Desk.told("piece 99;pupil 0 0 0;pupil 0 0 0;pianos 1;");
        Desk.due("nothing is gained: all rest", y.game(0, 1, 0), 4);
        Desk.due("the first", y.game(0, 1, 1), 0);
        BaizeDoor z = Desk.told("study 20 40;pupil 0 0 0;pupil 0 0 0;pianos 1;learns 20*sore;");
        Desk.due("even sore alone is better", z.game(0, 1, 1), 11);
        Desk.due("one couple", z.game(0, 1, 0), 1);
        String two = "piece 20;piece 99;pupil 0 0 1;pupil 0 0 0;pianos 1;learns 20*(sore=3)+2*(sore=0);";
        BaizeDoor a = Desk.told(two);
        Desk.due("2 more sore, not 3: all but where the other one goes", a.game(0, 1, 0), 2);
        Desk.due("the first", a.game(0, 1, 1), 0);
        Desk.due("all but where the first one goes", a.game(1, 0, 0), 2);
    }

    private static void gameOfThoseWhoCannot() {
        BaizeDoor x = Desk.told(GAME);
        x.pianos(2);
        x.door(2, 1);
        Desk.due("one piano left of two", x.game(0, 1, 1), 10);
        x.pianos(1);
        Desk.due("neither could", x.game(0, 1, 0), 1);
        Desk.due("0 alone", x.game(0, 1, 1), 0);
        x.pianos(2);
        Desk.due("one is away already", x.game(2, 1, 1), 1);
        Desk.due("the other way round", x.game(1, 2, 1), 10);
        Desk.due("one couple", x.game(1, 2, 0), 1);
    }

    private static void years() {
        BaizeDoor x = Desk.told("piece 20 90;pupil 10 4 0;pupil 10 4 0;");
        Desk.due("no weeks", x.years(1, 0, 2), 20);
        Desk.due("seed 1: 3, nothing", x.years(1, 1, 2), 26);
        Desk.due("seed 7: 4, nothing", x.years(7, 1, 2), 26);
        Desk.due("seed 0: pupil 0 to week 29", x.years(0, 1, 2), 28);
        Desk.due("seed 37: pupil 0 to week 1", x.years(37, 1, 2), 26);
        Desk.due("seed 6: pupil 1 sore", x.years(6, 1, 2), 25);
        Desk.due("seed 4: pupil 0 gloves", x.years(4, 1, 2), 28);
        x.pianos(1);
        x.door(1, 29);
        Desk.due("the piano is taken", x.years(0, 1, 2), 28);
        Desk.absent("years(1, 61, 3)", () -> x.years(1, 61, 3));
        Desk.absent("years(1, 1, -1)", () -> x.years(1, 1, -1));
        Desk.illegal("years(1, 61, 0)", () -> x.years(1, 61, 0));
        Desk.illegal("years(1, -1, 2)", () -> x.years(1, -1, 2));
        Desk.due("60 weeks", x.years(-1, 60, 2), 198);
        BaizeDoor y = Desk.told("piece 90;pupil 0 0 0;pupil 0 6 0;learns sore;");
        Desk.due("seed 6: pupil 1 has 9", y.years(6, 1, 2), 9);
        Desk.due("seed 11: pupil 0 has 3", y.years(11, 1, 2), 9);
        Desk.due("seed 3: pupil 1 has 3", y.years(3, 1, 2), 3);
        y.gloves(1, 4);
        Desk.due("seed 3: pupil 1 not below 0", y.years(3, 1, 2), 0);
        y.door(1, 3);
        y.door(1, 4);
        y.door(1, 5);
        Desk.due("sore 8", y.pupil(1, 1), 8);
        int skill = y.pupil(1, 0);
        Desk.due("seed 6: 9 at most", y.years(6, 1, 2), skill + 9);
    }

    private static void yearsByPieces() {
        BaizeDoor x = Desk.told("piece 13;piece 13 13;pupil 10 4 0;pupil 10 4 0;");
        Desk.due("bars", x.years(1, 1, 0), 2);
        Desk.due("pieces done, of each pupil", x.years(1, 1, 1), 2);
        x.weeks(1);
        Desk.due("no more bars", x.years(1, 1, 0), 0);
        Desk.due("still done", x.years(1, 0, 1), 2);
        x.begin(0, 1);
        Desk.due("one bar of two", x.years(1, 1, 0), 1);
        Desk.due("one is done", x.years(1, 1, 1), 1);
    }
}
