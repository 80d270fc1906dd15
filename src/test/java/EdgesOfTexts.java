import java.util.function.IntUnaryOperator;

/** Edges of the tape, of texts and their faults, of the rule's language (Terms up to FAULTS; promises 1 to 4). */
final class EdgesOfTexts {
    private static final String TERMS = "Terms";

    private EdgesOfTexts() {
    }

    static void all(Book book) {
        sizes(book);
        tokens(book);
        lines(book);
        expressions(book);
        values(book);
        faults(book);
        tooMuch(book);
        unknown(book);
        newObject(book);
        feed(book);
        school(book);
        fault(book);
    }

    private static String times(String line, int many) {
        return line.repeat(many);
    }

    /** What one learns by a rule: skill 7, sore 3, the next bar 11 hard, the first of three. */
    private static void gives(String rule, int due) {
        BaizeDoor x = Desk.told("piece 11 22 33;pupil 7 3 0;learns " + rule + ";");
        Desk.due("learns " + rule, x.pupil(0, 6), due);
    }

    private static void sizes(Book book) {
        book.edge(TERMS, "PIECES 0, 1 .. (at most 6)", () -> {
            BaizeDoor x = Desk.told("piece 1;piece 2;piece 3;piece 4;piece 5;piece 6;");
            Desk.due("six pieces", x.count(0), 6);
            Desk.due("the first is 0", x.bar(0, 0), 1);
            Desk.due("the last is 5", x.bar(5, 0), 6);
            Desk.absent("piece(6, 0)", () -> x.piece(6, 0));
            Desk.fault("piece 1;piece 2;piece 3;piece 4;piece 5;piece 6;piece 7;", 2, 48);
        });
        book.edge(TERMS, "1 to 8 BARS", () -> {
            Desk.fault("piece ;", 1, 6);
            Desk.due("one bar", Desk.told("piece 9;").piece(0, 0), 1);
            Desk.due("eight bars", Desk.told("study 9 8 7 6 5 4 3 2;").piece(0, 0), 8);
            Desk.fault("piece 9 8 7 6 5 4 3 2 1;", 2, 22);
        });
        book.edge(TERMS, "each so HARD (1 to 99)", () -> {
            Desk.fault("piece 0;", 2, 6);
            Desk.due("1", Desk.told("piece 1;").bar(0, 0), 1);
            Desk.due("99", Desk.told("piece 5 99;").bar(0, 1), 99);
            Desk.fault("study 5 100;", 2, 8);
        });
        book.edge(TERMS, "PUPILS 0, 1 .. (at most 7)", () -> {
            BaizeDoor x = Desk.told("piece 5;" + times("pupil 1 1 0;", 6) + "prodigy 2 2 0;");
            Desk.due("seven pupils", x.count(1), 7);
            Desk.due("the first is 0", x.pupil(0, 0), 1);
            Desk.due("the last is 6", x.pupil(6, 0), 2);
            Desk.absent("pupil(7, 0)", () -> x.pupil(7, 0));
            Desk.fault("piece 5;" + times("pupil 1 1 0;", 8), 2, 92);
        });
        book.edge(TERMS, "SKILL (0 to 99)", () -> {
            Desk.due("0", Desk.told("piece 5;pupil 0 5 0;").pupil(0, 0), 0);
            Desk.due("99", Desk.told("piece 5;pupil 99 5 0;").pupil(0, 0), 99);
            Desk.fault("piece 5;pupil 100 5 0;", 2, 14);
        });
        book.edge(TERMS, "SORE (0 to 9)", () -> {
            Desk.due("0", Desk.told("piece 5;pupil 5 0 0;").pupil(0, 1), 0);
            Desk.due("9", Desk.told("piece 5;prodigy 5 9 0;").pupil(0, 1), 9);
            Desk.fault("piece 5;pupil 5 10 0;", 2, 16);
        });
        book.edge(TERMS, "a PIECE. PIANOS (1 to 4; 2 without)", () -> {
            Desk.fault("pianos 0;", 2, 7);
            Desk.due("1", Desk.told("pianos 1;").count(2), 1);
            Desk.due("4", Desk.told("pianos 4;").count(2), 4);
            Desk.fault("pianos 5;", 2, 7);
            Desk.due("2 without", Desk.told("piece 5;").count(2), 2);
            Desk.due("2 of a new object", new BaizeDoor().count(2), 2);
        });
    }

    private static void tokens(Book book) {
        book.edge(TERMS, "A TEXT of at most 700 bytes tells it.", () -> {
            String blanks = times(" ", 692);
            Desk.fine("piece 5" + blanks + ";");
            Desk.fault("piece 5;" + blanks.substring(1) + "x", 1, 699);
            Desk.fault("piece 5" + blanks + " ", 1, 700);
            BaizeDoor x = new BaizeDoor();
            Desk.feed(x, times("\n", 700));
            Desk.due("a 701st doesn't come", x.feed(0x20202020, 0x20202020, 0x20202020, 0x20202020, 0x20202020), -1);
            Desk.due("700 blanks", x.school(700), 0);
        });
        book.edge(TERMS, "words (a .. z, the longest row)", () -> {
            Desk.fault("learns a;", 3, 7);
            Desk.fault("learns z;", 3, 7);
            Desk.fault("learns `;", 1, 7);
            Desk.fault("learns {;", 1, 7);
            Desk.fault("learns A;", 1, 7);
            Desk.fault("learns Z;", 1, 7);
            Desk.fault("piecepiece 5;", 1, 0);
            Desk.fault("learns skillsore;", 3, 7);
            Desk.fault("learns notskill;", 3, 7);
            Desk.fine("learns 1and 2or not(3);");
        });
        book.edge(TERMS, "NUMBERS (1 to 4 digits)", () -> {
            Desk.due("one digit", Desk.told("piece 9;").bar(0, 0), 9);
            Desk.due("four digits", Desk.told("piece 0009;").bar(0, 0), 9);
            Desk.fault("piece 00009;", 2, 6);
            gives("9999=9998+1", 1);
            Desk.fault("learns 10000;", 2, 7);
            Desk.fault("learns :;", 1, 7);
            Desk.fault("learns /;", 1, 7);
        });
        book.edge(TERMS, "signs ; ( ) + - * / < = ;", EdgesOfTexts::everyByte);
        book.edge(TERMS, "blanks (32, 10) between them count for nothing.", () -> {
            Desk.fine("\n piece \n\n5  \n; \n");
            Desk.due("none needed", Desk.told("study5;piece6;").count(0), 2);
            Desk.due("one bar", Desk.told("piece 55;").piece(0, 0), 1);
            Desk.due("two bars", Desk.told("piece 5\n5;").piece(0, 0), 2);
            Desk.fault("pi ece 5;", 1, 0);
            for (int no : new int[] {0, 9, 11, 12, 13, 31, 33, 160}) Desk.fault("piece" + (char) no + "5;", 1, 5);
        });
    }

    /** Each byte behind a number, in a piece and in an expression. */
    private static void everyByte() {
        for (int b = 0; b < 256; b++) {
            boolean digit = b >= '0' && b <= '9';
            boolean blank = b == 32 || b == 10;
            String piece = "piece 5" + (char) b;
            if (b == ';') Desk.fine(piece);
            else Desk.fault(piece, 1, digit || blank ? 8 : 7);
            String rule = "learns 1" + (char) b + "1;";
            if (digit || "+-*/<=".indexOf(b) >= 0) Desk.fine(rule);
            else Desk.fault(rule, 1, blank || b == ';' ? 9 : 8);
        }
        Desk.fine("learns (1);");
    }

    private static void lines(Book book) {
        book.edge(TERMS, "SCHOOL: LINE*.", () -> {
            Desk.fine("");
            Desk.due("lines in any order", Desk.told("learns 1;pianos 3;piece 5;pupil 0 0 0;study 5;").count(0), 2);
        });
        book.edge(TERMS, "('piece' | 'study') HARD HARD*", () -> {
            Desk.fault("piece", 1, 5);
            Desk.fault("study;", 1, 5);
            Desk.fault("study 5 study 6;", 1, 8);
            Desk.fine("piece 5 5;");
        });
        book.edge(TERMS, "('pupil' | 'prodigy') SKILL SORE PIECE", () -> {
            Desk.fault("piece 5;pupil;", 1, 13);
            Desk.fault("piece 5;pupil 5;", 1, 15);
            Desk.fault("piece 5;prodigy 5 5;", 1, 19);
            Desk.fault("piece 5;pupil 5 5 0 0;", 1, 20);
        });
        book.edge(TERMS, "'pianos' NUMBER", () -> {
            Desk.fault("pianos;", 1, 6);
            Desk.fault("pianos 1 2;", 1, 9);
        });
        book.edge(TERMS, "'learns' EXPR) ';'", () -> {
            Desk.fault("learns;", 1, 6);
            Desk.fault("learns 1", 1, 8);
            Desk.fault("learns 1 pianos 1;", 1, 9);
            Desk.fault("pianos 1 learns 1;", 1, 9);
            Desk.fault("piece 5;;", 1, 8);
        });
        book.edge(TERMS, "all in capitals but EXPR being NUMBERS.", () -> {
            Desk.fault("piece skill;", 1, 6);
            Desk.fault("piece 5;pupil sore 0 0;", 1, 14);
            Desk.fault("piece 5;pupil 0 (0) 0;", 1, 16);
            Desk.fault("piece 5;pupil 0 0 zero;", 1, 18);
            Desk.fault("pianos -1;", 1, 7);
            Desk.fault("pianos 1+1;", 1, 8);
        });
    }

    private static void expressions(Book book) {
        book.edge(TERMS, "EXPR: AND ('or' AND)*.", () -> {
            gives("0 or 0 or 0 or 2", 1);
            gives("1 or 0 and 0", 1);
            Desk.fault("learns 1 or;", 1, 11);
            Desk.fault("learns 1 or 2 3;", 1, 14);
        });
        book.edge(TERMS, "AND: NOT ('and' NOT)*.", () -> {
            gives("2 and 2 and 2", 1);
            gives("2 and 2 and 0", 0);
            gives("not 1 and 0", 0);
            Desk.fault("learns 1 and;", 1, 12);
        });
        book.edge(TERMS, "NOT: 'not' NOT | SUM [('<' | '=') SUM].", () -> {
            gives("not 2<1", 1);
            gives("not 1<2", 0);
            gives("not not 7", 1);
            Desk.fault("learns not;", 1, 10);
            Desk.fault("learns 1<;", 1, 9);
            Desk.fault("learns 1<2<3;", 1, 10);
            Desk.fault("learns 1=2=3;", 1, 10);
            gives("(1<2)=1", 1);
        });
        book.edge(TERMS, "SUM: PRODUCT (('+' | '-') PRODUCT)*.", () -> {
            gives("1+2+3-4+5", 7);
            Desk.fault("learns 1+;", 1, 9);
            Desk.fault("learns +1;", 1, 7);
            Desk.fault("learns 1+-1;", 1, 9);
        });
        book.edge(TERMS, "PRODUCT: PART (('*' | '/') PART)*.", () -> {
            gives("2*3*4/2", 12);
            gives("2+3*4", 14);
            Desk.fault("learns 1*;", 1, 9);
            Desk.fault("learns *1;", 1, 7);
        });
        book.edge(TERMS, "PART: NUMBER | VALUE | '(' EXPR ')'.", () -> {
            gives("(((1 or 0)))*7", 7);
            Desk.fault("learns ();", 1, 8);
            Desk.fault("learns (1;", 1, 9);
            Desk.fault("learns 1);", 1, 8);
            Desk.fault("learns (1 2);", 1, 10);
        });
        book.edge(TERMS, "From the left", () -> {
            gives("10-3-2", 5);
            gives("20/3*2", 12);
            gives("19-5+3", 17);
            gives("16/4/2", 2);
        });
        book.edge(TERMS, "ints that wrap", () -> {
            gives("2048*2048*512<0", 1);
            gives("2048*2048*512-1<0", 0);
            gives("4096*4096*256+6", 6);
            gives("2048*2048*512/(0-1)<0", 1);
            gives("0-2048*2048*512<0", 1);
        });
        book.edge(TERMS, "/ cut down to 0", () -> {
            gives("7/2", 3);
            gives("(0-7)/2+10", 7);
            gives("7/(0-2)+10", 7);
            gives("(0-7)/(0-2)", 3);
            gives("(0-1)/2+10", 10);
        });
        book.edge(TERMS, "by 0 gives 0", () -> {
            gives("5/0", 0);
            gives("5/0+3", 3);
            gives("0/0+4", 4);
            gives("(0-9)/(2-2)+5", 5);
        });
        book.edge(TERMS, "tests, not, and, or are 1 or 0 (what isn't 0 holds).", () -> {
            gives("(0-1) and 7", 1);
            gives("(0-1) or 0", 1);
            gives("0 or 0", 0);
            gives("not (0-1)", 0);
            gives("not 0", 1);
            gives("5<5", 0);
            gives("4<5", 1);
            gives("0-1<0", 1);
            gives("5=5", 1);
            gives("5=6", 0);
        });
    }

    private static void values(Book book) {
        book.edge(TERMS, "'hard' (how HARD the BAR is that comes next; 0, if the PIECE is done)", () -> {
            gives("hard", 11);
            BaizeDoor x = Desk.told("piece 3 4;pupil 9 0 0;learns hard;");
            x.weeks(1);
            Desk.due("the second bar", x.pupil(0, 6), 4);
            x.weeks(1);
            Desk.due("done", x.pupil(0, 6), 0);
            BaizeDoor y = Desk.told("study 1 1 1 1 1 1 1 1;piece 20;pupil 9 0 0;learns hard;");
            y.weeks(1);
            Desk.due("done, with another piece behind it", y.pupil(0, 6), 0);
        });
        book.edge(TERMS, "'bar' (how many are done), 'bars' (of the PIECE)", () -> {
            gives("bar", 0);
            gives("bars", 3);
            BaizeDoor x = Desk.told("study 1 1 1 1 1 1 1 1;pupil 9 0 0;learns bar+bars;");
            Desk.due("none of eight", x.pupil(0, 6), 8);
            x.weeks(1);
            Desk.due("eight of eight", x.pupil(0, 6), 16);
        });
        book.edge(TERMS, "'away' (in how many weeks to come one isn't there).", () -> {
            BaizeDoor x = Desk.told("piece 99;pupil 0 0 0;learns (away=0)*3+(away=30)*4+(away=29)*5;");
            Desk.due("in none", x.pupil(0, 6), 3);
            for (int k = 1; k <= 30; k++) x.door(0, k);
            Desk.due("in all thirty", x.pupil(0, 6), 4);
            x.weeks(1);
            Desk.due("one is gone by", x.pupil(0, 6), 5);
        });
    }

    private static void faults(Book book) {
        book.edge(TERMS, "FAULTS, the first along the text", () -> {
            Desk.fault("piece 0;x", 2, 6);
            Desk.fault("x;piece 0;", 1, 0);
            Desk.fault("piece 5;pupil 0 0 1;piece 0;", 3, 18);
            Desk.fault("pianos 1;pianos 9;", 5, 9);
        });
        book.edge(TERMS, "at a TOKEN's first byte", () -> {
            Desk.fault(" \n learns   \n foobar;", 3, 14);
            Desk.fault("piece   12345;", 2, 8);
            Desk.fault("pianos 1;\n\nlearns 1;learns 2;", 5, 20);
        });
        book.edge(TERMS, "of one TOKEN the least:", () -> {
            Desk.fault("12345", 1, 0);
            Desk.fault("piece foo;", 1, 6);
            Desk.fault("learns 1 12345;", 1, 9);
            Desk.fault("learns ((((((foo))))));", 2, 13);
            Desk.fault("piece 5;pupil 0 0 12345;", 2, 18);
        });
        book.edge(TERMS, "1 a TOKEN that can't stand there, or is none", () -> {
            Desk.fault(";", 1, 0);
            Desk.fault("5", 1, 0);
            Desk.fault("skill 5;", 1, 0);
            Desk.fault("piece 5 (", 1, 8);
            Desk.fault("piece 5;?", 1, 8);
            Desk.fault("learns 1 skill;", 1, 9);
            Desk.fault("learns 1(2);", 1, 8);
        });
        book.edge(TERMS, "(the text's length where it ends too soon)", () -> {
            String text = "piece 5 6 ;pupil 1 2 0 ;pianos 3 ;learns ( not 1 + skill ) * 2 < 3 and 4 or 5 ;";
            for (int n = 1; n < text.length(); n++) {
                boolean atBlank = text.charAt(n - 1) == ' ';
                if (atBlank) Desk.fault(text.substring(0, n), 1, n);
                if (text.charAt(n) == ' ') Desk.fault(text.substring(0, n), 1, n);
                if (text.charAt(n - 1) == ';') Desk.fine(text.substring(0, n));
            }
            BaizeDoor x = new BaizeDoor();
            Desk.feed(x, text);
            Desk.due("not the tape's length", x.school(5) * 1000 + x.fault(), 1005);
        });
    }

    private static void tooMuch(Book book) {
        book.edge(TERMS, "2 one that can, but is too much: a NUMBER of 5 digits or more", () -> {
            Desk.fault("piece 00005;", 2, 6);
            Desk.fault("piece 4294967301;", 2, 6);
            Desk.fault("piece 5;pupil 00000 0 0;", 2, 14);
            Desk.fault("piece 5;pupil 0 00000 0;", 2, 16);
            Desk.fault("piece 5;pupil 0 0 00000;", 2, 18);
            Desk.fault("piece 5;pupil 0 0 4294967296;", 2, 18);
            Desk.fault("pianos 00001;", 2, 7);
            Desk.fault("learns 00000;", 2, 7);
            Desk.fault("learns 1+4294967296;", 2, 9);
            Desk.fault("learns " + times("0", 600) + ";", 2, 7);
        });
        book.edge(TERMS, "or (not in an EXPR) not as told", () -> {
            Desk.fault("piece 9999;", 2, 6);
            Desk.fault("piece 5;pupil 9999 0 0;", 2, 14);
            Desk.fault("piece 5;pupil 0 9999 0;", 2, 16);
            Desk.fault("pianos 9999;", 2, 7);
            gives("9999", 20);
            gives("9999*0", 0);
        });
        book.edge(TERMS, "the first TOKEN of the 7th PIECE", () -> {
            String six = "piece 1;study 1;piece 1;study 1;piece 1;study 1;";
            Desk.fine(six);
            Desk.fault(six + "piece", 2, 48);
            Desk.fault(six + " study 0;", 2, 49);
            Desk.fault(six + "pupil 0 0 5;piece 1;", 2, 60);
        });
        book.edge(TERMS, "the 9th BAR", () -> {
            Desk.fault("study 1 2 3 4 5 6 7 8 9", 2, 22);
            Desk.fault("piece 1 2 3 4 5 6 7 8 0;", 2, 22);
            Desk.fault("piece 1 2 3 4 5 6 7 8 12345;", 2, 22);
            Desk.fault("piece 1 2 3 4 5 6 7 8 x;", 1, 22);
        });
        book.edge(TERMS, "the 8th PUPIL", () -> {
            String seven = "piece 5;" + times("pupil 1 1 0;", 7);
            Desk.fine(seven);
            Desk.fault(seven + "pupil", 2, 92);
            Desk.fault(seven + "\nprodigy 1 1 0;", 2, 93);
        });
        book.edge(TERMS, "of an EXPR within 6 others (a NUMBER, any word, a parenthesis)", () -> {
            Desk.fine("learns (((((1)))))+(((((2)))));");
            for (String first : new String[] {"1", "12345", "skill", "foo", "not", "or", "("}) {
                Desk.fault("learns ((((((" + first, 2, 13);
            }
            for (String no : new String[] {")", "+", ";", "?", "A", ""}) Desk.fault("learns ((((((" + no, 1, 13);
            Desk.fault("learns 1+((((( (1)", 2, 16);
            Desk.fault("learns not(not(not(not(not(not(1))))));", 2, 31);
        });
        book.edge(TERMS, "the seventh 'not' side by side", () -> {
            gives(times("not ", 6) + "3", 1);
            Desk.fault("learns " + times("not ", 7) + "3;", 2, 31);
            Desk.fault("learns " + times("not ", 6) + "foo;", 3, 31);
            Desk.fine("learns " + times("not ", 6) + "(" + times("not ", 6) + "1);");
            Desk.fine("learns " + times("not ", 6) + "1 and " + times("not ", 6) + "1;");
        });
    }

    private static void unknown(Book book) {
        book.edge(TERMS, "3 any word where a PART must stand that is no VALUE", () -> {
            for (String no : new String[] {"foo", "or", "and", "piece", "skills", "ba", "barss", "x"}) {
                Desk.fault("learns " + no + ";", 3, 7);
                Desk.fault("learns 1*(2-" + no + ";", 3, 12);
            }
            Desk.fault("learns 1+not 2;", 3, 9);
            Desk.fault("learns 1<not 2;", 3, 9);
            Desk.fault("learns not and 2;", 3, 11);
            for (String value : new String[] {"skill", "sore", "hard", "bar", "bars", "away"}) {
                Desk.fine("learns " + value + ";");
            }
        });
        book.edge(TERMS, "a PIECE that isn't told ahead", () -> {
            Desk.fault("pupil 0 0 0;", 3, 10);
            Desk.fault("pupil 0 0 0;piece 5;", 3, 10);
            Desk.fault("piece 5;pupil 0 0 1;piece 5;", 3, 18);
            Desk.fault("piece 5;pupil 0 0 6;", 3, 18);
            Desk.fault("piece 5;pupil 0 0 9999;", 3, 18);
            Desk.fine("piece 5;piece 6;pupil 0 0 1;");
        });
        book.edge(TERMS, "5 a second 'pianos', 'learns'.", () -> {
            Desk.fault("pianos 1;pianos 1;", 5, 9);
            Desk.fault("learns 1;learns 1;", 5, 9);
            Desk.fault("learns 1;pianos 1;piece 5;learns", 5, 26);
            Desk.fine("pianos 1;learns 1;");
        });
    }

    private static void newObject(Book book) {
        book.edge(1, "No PUPILS.", () -> {
            BaizeDoor x = new BaizeDoor();
            Desk.due("count(1)", x.count(1), 0);
            IntUnaryOperator[] calls = {p -> x.pupil(p, 0), p -> x.door(p, 1), p -> x.gloves(p, 1),
                p -> x.begin(p, 0), p -> x.then(p, 0, 0), x::done, x::free, x::through, p -> x.toBeDone(p, 0),
                p -> x.fits(p, 0), x::repertoire, p -> x.choice(p + 7), x::next, x::toGlove, x::mates,
                p -> x.see(p, 1, 0), p -> x.game(p, p + 1, 0)};
            for (int i = 0; i < calls.length; i++) {
                IntUnaryOperator call = calls[i];
                for (int p = -1; p <= 1; p++) {
                    int who = p;
                    Desk.absent("call " + i + " of pupil " + p, () -> call.applyAsInt(who));
                }
            }
            Desk.due("nothing is refused", x.count(11) + x.count(12), 0);
        });
    }

    private static void feed(Book book) {
        book.edge(2, "Twenty bytes come behind the tape, of each number the highest first", () -> {
            BaizeDoor x = new BaizeDoor();
            // "pian" "os 3" ";pia" "nos " "4   ", and behind it a byte above 127, the highest of an int below 0.
            x.feed(0x7069616e, 0x6f732033, 0x3b706961, 0x6e6f7320, 0x34202020);
            x.feed(0x80000000, -1, Integer.MIN_VALUE, Integer.MAX_VALUE, 0);
            Desk.due("the second pianos", x.school(20) * 1000 + x.fault(), 5009);
            x.feed(0x20202020, 0x2020200a, 0x20202020, 0x20202020, 0x20202020);
            x.feed(0x80000000, -1, Integer.MIN_VALUE, Integer.MAX_VALUE, 0);
            Desk.due("the 21st byte is none", x.school(40) * 1000 + x.fault(), 1020);
        });
        book.edge(2, "how many it has; NONE, and none come, if it would have more than 700.", () -> {
            BaizeDoor x = new BaizeDoor();
            for (int i = 1; i <= 35; i++) Desk.due("feed", x.feed(0x20202020, 0x20202020, 0x20202020, 0x20202020,
                i < 35 ? 0x20202020 : 0x2020203b), 20 * i);
            for (int i = 0; i < 3; i++) Desk.due("full", x.feed(1, 2, 3, 4, 5), -1);
            Desk.due("still 700", x.count(9), 700);
            Desk.due("nothing is refused", x.count(10) + x.count(11) + x.count(12), 0);
            Desk.due("the last one came", x.school(700) * 1000 + x.fault(), 1699);
            Desk.due("room again", x.feed(1, 2, 3, 4, 5), 20);
        });
    }

    private static BaizeDoor busy() {
        BaizeDoor x = Desk.told("piece 10 12;study 3;pupil 8 4 0;prodigy 1 2 1;pianos 3;learns 7;");
        x.weeks(1);
        x.door(0, 2);
        x.see(1, 1, 1);
        x.image();
        x.weeks(0);
        x.see(1, 0, 1);
        return x;
    }

    private static void school(Book book) {
        book.edge(3, "The tape's first n bytes (it is empty then) are a SCHOOL", () -> {
            BaizeDoor x = new BaizeDoor();
            Desk.feed(x, "piece 5;piece 6;x");
            Desk.due("school(8)", x.school(8), 0);
            Desk.due("one piece", x.count(0), 1);
            Desk.due("empty", x.count(9), 0);
            Desk.due("feed", x.feed(0, 0, 0, 0, 0), 20);
            Desk.due("a fault", x.school(20), 1);
            Desk.due("empty too", x.count(9), 0);
            Desk.feed(x, "x");
            Desk.due("school(0)", x.school(0), 0);
            Desk.due("empty too", x.count(9) + x.count(0), 0);
        });
        book.edge(3, "all anew: 0", () -> {
            String full = times("study 1 2 3 4 5 6 7 8;", 6) + times("prodigy 9 9 5;", 7)
                + "pianos 4;learns 1+skill*(2-sore)/3;";
            String[] texts = {full, full, "study 6;pupil 5 2 0;", "piece 9 1;pupil 5 2 0;",
                "piece 3;pupil 5 2 0;learns 1+2+3;", "piece 3;prodigy 0 9 0;learns 3;", "piece 3;pupil 5 2 0;learns not 0;",
                "piece 1 1;piece 4;pupil 9 0 1;", "piece 9;", "", ""};
            BaizeDoor x = busy();
            for (String text : texts) {
                Desk.due("another", Desk.tell(x, text), 0);
                BaizeDoor alike = Desk.told(text);
                Desk.due("all of it", Desk.view(x), Desk.view(alike));
                x.weeks(1);
                alike.weeks(1);
                Desk.due("a week on", Desk.view(x), Desk.view(alike));
                Desk.due("the choice", x.choice(-1), alike.choice(-1));
                for (int p = 0; p < x.count(1); p++) x.door(p, 1 + p);
            }
            Desk.due("what was refused stays", x.count(11) * 10 + x.count(12), 11);
        });
        book.edge(3, "or the FAULT (all stays, but STATUS)", () -> {
            for (String no : new String[] {"x", "piece 1;pupil 1 1 0;pianos 1;learns 1;x", "learns 3", "pianos 1;piece 0;"}) {
                BaizeDoor x = busy();
                String before = Desk.view(x);
                Desk.holds("a fault", Desk.tell(x, no) > 0);
                Desk.due("all stays", Desk.view(x), before);
                Desk.due("status", x.count(10) * 100 + x.count(11) * 10 + x.count(12), 111);
                Desk.due("acts stay", x.undo(), 1);
                Desk.holds("the image stays", x.restore());
                Desk.due("as before", Desk.view(x), before);
            }
        });
        book.edge(3, "ACTS, what is SEEN, the image are gone.", () -> {
            BaizeDoor x = busy();
            Desk.due("the same anew", Desk.tell(x, "piece 10 12;study 3;pupil 8 4 0;prodigy 1 2 1;"), 0);
            Desk.due("acts", x.count(7), 0);
            Desk.due("undo()", x.undo(), -1);
            Desk.due("seen", x.count(8), 0);
            Desk.holds("no image", !x.restore());
        });
        book.edge(3, "IllegalArgumentException: the tape has not so many, n below 0 (nothing changes).", () -> {
            BaizeDoor x = busy();
            Desk.tell(x, "  x");
            Desk.feed(x, "piece 9;");
            String before = Desk.view(x);
            for (int n : new int[] {21, 40, 700, 701, Integer.MAX_VALUE, -1, Integer.MIN_VALUE}) {
                Desk.illegal("school(" + n + ")", () -> x.school(n));
            }
            Desk.due("nothing changes", Desk.view(x), before);
            Desk.due("the tape", x.count(9), 20);
            Desk.due("fault()", x.fault(), 2);
            Desk.due("status", x.count(10), 1);
            Desk.due("as many as it has", x.school(20), 0);
            Desk.illegal("school(1), none left", () -> x.school(1));
        });
    }

    private static void fault(Book book) {
        book.edge(4, "The place of the latest school()'s FAULT; NONE without.", () -> {
            BaizeDoor x = new BaizeDoor();
            Desk.due("none yet", x.fault(), -1);
            Desk.tell(x, "   x");
            Desk.due("3", x.fault(), 3);
            Desk.tell(x, "x");
            Desk.due("0", x.fault(), 0);
            Desk.tell(x, "piece 5;");
            Desk.due("none again", x.fault(), -1);
            Desk.tell(x, "piece 5");
            Desk.due("7", x.fault(), 7);
            Desk.due("and stays", x.fault(), 7);
        });
    }
}
