/** The edges of the text of a gorge: its lines, its formula, its tokens, what is told, its faults; promises 1 to 5. */
final class EdgesOfTexts extends Edges {
    private static final String A = "flock a bride at 0 0 size 1;";
    private static final String B = "flock b groom at 0 0 size 1;";
    private static final String SIX_BRIDES = A + "flock c bride at 0 0 size 1;flock d bride at 0 0 size 1;"
            + "flock e bride at 0 0 size 1;flock f bride at 0 0 size 1;flock g bride at 0 0 size 1;";
    private static final String SIGNS = ";()<>=+-*/%";
    private static final String[] RESERVED = {"gorge", "by", "green", "grass", "flock", "bride", "groom", "at", "size",
        "wants", "feud", "pull", "rain", "of", "evenings", "draw", "or", "and", "not", "salt", "others", "home", "here",
        "day"};

    private EdgesOfTexts() { }

    static void run() {
        newObject();
        tape();
        wholeText();
        lines();
        formulas();
        depths();
        tokens();
        words();
        toldGorge();
        toldFlocks();
        toldTwos();
        toldNumbers();
        faultPlaces();
        faultKinds();
        gorge();
        fault();
    }

    private static void newObject() {
        says(1, "An empty GORGE (4 by 4 CELLS).");
        GoatMatches x = new GoatMatches();
        due(0, x.about(0));
        due(4, x.about(1));
        due(4, x.about(2));
        due(5, x.ground(15, 0));
        due(-1, x.ground(16, 0));
        due(-2, x.flock(0, 0));
        due(-1, x.pen(0));
        due(0, x.matched());
        due(false, x.undo());
        due(-1, x.back(0));
        says(1, "(empty at first)");
        String before = all(x);
        due(0, x.about(12));
        due(0, x.gorge());
        same(before, all(x));
        due(80, x.grass());
    }

    private static void tape() {
        says(2, "Twenty bytes come behind those on the TAPE, of each number the highest first");
        GoatMatches x = new GoatMatches();
        x.feed(0x67726565, 0x6e20333b, 0x65766e65, 0x6e696e67, 0x73203230);
        x.end(8);
        x.feed(0x64726177, 0x20313b20, 0x20200a0a, 0x20202020, 0x7261696e);
        x.end(24);
        due(0, x.gorge());
        due(48, x.grass());
        due(1, x.about(6));
        x.feed(-1, -1, -1, -1, -1);
        due(-1, x.gorge());
        due(1, x.fault(0));
        due(0, x.fault(1));
        says(2, "how many there are");
        due(20, x.feed(LEAST, MOST, 0, -1, 1));
        due(40, x.feed(0, 0, 0, 0, 0));
        due(33, x.end(33));
        due(53, x.feed(0, 0, 0, 0, 0));
        due(53, x.about(12));
        says(2, "NONE, and nothing comes, if there would be more than 1,600.");
        x = new GoatMatches();
        for (int i = 1; i <= 80; i++) {
            due(20 * i, x.feed(0x20202020, 0x20202020, 0x20202020, 0x20202020, 0x20202020));
        }
        due(-1, x.feed(0, 0, 0, 0, 0));
        due(1600, x.about(12));
        x.end(1581);
        due(-1, x.feed(0, 0, 0, 0, 0));
        due(1581, x.about(12));
        x.end(1580);
        due(1600, x.feed(0x20202020, 0x20202020, 0x20202020, 0x20202020, 0x20202024));
        due(-1, x.gorge());
        due(1599, x.fault(1));
        due(20, x.feed(0, 0, 0, 0, 0));
        says(3, "The TAPE has its first n bytes: n");
        Texts.tape(x, "green 3;draw 7;");
        due(15, x.end(15));
        due(8, x.end(8));
        due(8, x.about(12));
        due(0, x.gorge());
        due(48, x.grass());
        due(0, x.about(6));
        due(0, x.end(0));
        says(3, "NONE, doing nothing, if it has not so many, or n is below 0.");
        due(-1, x.end(1));
        due(-1, x.end(-1));
        Texts.tape(x, "green 3;");
        due(-1, x.end(9));
        due(-1, x.end(LEAST));
        due(-1, x.end(MOST));
        due(8, x.about(12));
        due(0, x.gorge());
        due(48, x.grass());
    }

    private static void wholeText() {
        says(4, "A GORGE is a text of at most 1,600 bytes");
        due(112, sound(0, " ".repeat(1592) + "green 7;").grass());
        due(112, sound(0, "green 7;" + "\n".repeat(1592)).grass());
        faulty(2, " ".repeat(1593) + "green 7^");
        faulty(2, "green 7;" + " ".repeat(1591) + "^=");
        faulty(1, "^" + "a".repeat(1600));
        faulty(1, "green ^" + "9".repeat(1594));
        faulty(2, "^" + ";".repeat(1600));
        faulty(2, "pull (((((((^" + "(".repeat(1588));
        faulty(2, "pull not not not not not not not ^" + "not ".repeat(391));
        says(4, "gorge = {line}.");
        sound(0, "");
        sound(0, "green 1;");
        sound(0, "green 1;draw 1;evenings 1;");
        faulty(2, "green 1^");
        faulty(2, "^;");
        faulty(2, "green 1;^;");
        faulty(2, "green 1;^1;");
        faulty(2, "green 1;^by;");
        faulty(2, "green 1;^goats;");
    }

    /** A line, whole; cut behind each token; and with each token but the first in turn another one, or none. */
    private static void line(int flocks, String ahead, String line) {
        sound(flocks, ahead + line);
        String[] tokens = line.split(" ");
        StringBuilder start = new StringBuilder(ahead + tokens[0]);
        for (int i = 1; i < tokens.length; i++) {
            faulty(2, start + "^");
            faulty(2, start + " \n ^");
            faulty(1, start + " ^$");
            for (String other : new String[] {"=", ")", "by", "of", "at", "size", "bride", "zz", "5", ";", "green"}) {
                if (!mayStandFor(tokens[i], other)) {
                    faulty(2, start + " ^" + other);
                }
            }
            start.append(' ').append(tokens[i]);
        }
    }

    private static boolean mayStandFor(String token, String other) {
        if (token.matches("[0-9]")) {
            return other.equals("5");
        }
        if (token.matches("[abz]")) {
            return other.equals("zz");
        }
        return other.equals(token) || token.equals("groom") && other.equals("bride");
    }

    private static void lines() {
        String[] forms = {"line = gorge N by N ;", "green N ;", "grass N N N ;",
            "flock NAME (bride | groom) at N N size N ;", "flock NAME (bride | groom) at N N size N ;",
            "wants NAME NAME N ;", "feud NAME NAME ;", "rain N of N ;", "evenings N ;", "draw N ;."};
        String[] whole = {"gorge 2 by 3 ;", "green 4 ;", "grass 1 2 3 ;", "flock z bride at 1 2 size 3 ;",
            "flock z groom at 1 2 size 3 ;", "wants a b 3 ;", "feud a b ;", "rain 3 of 4 ;", "evenings 5 ;", "draw 6 ;"};
        for (int i = 0; i < forms.length; i++) {
            says(4, forms[i]);
            if (whole[i].startsWith("gorge")) {
                line(0, "", whole[i]);
            } else {
                line(whole[i].startsWith("flock") ? 3 : 2, A + B, whole[i]);
            }
        }
        says(4, "pull e ;");
        sound(0, "pull 1 ;");
        faulty(2, "pull^");
        faulty(2, "pull 1 \n^");
        faulty(2, "pull ^;");
        faulty(2, "pull ^by;");
        faulty(2, "pull ^zz;");
        faulty(2, "pull 1 ^green 2;");
        faulty(2, "pull 1 ^zz;");
        faulty(2, "pull 1 ^1;");
        faulty(2, "pull 1 ^);");
        faulty(1, "pull ^$");
        faulty(1, "pull 1 ^$");
    }

    /** PULL where grass is 5, salt 8, others 2, home 3, here 0, day 1. */
    private static void worth(long want, String e) {
        GoatMatches x = Texts.of("gorge 4 by 3;grass 2 1 7;flock a bride at 0 0 size 1;flock b groom at 2 1 size 1;"
                + "flock c groom at 2 1 size 1;pull " + e + ";");
        x.salt(6);
        x.pen(0);
        x.pen(1);
        x.pen(2);
        x.day();
        due(want, x.pull(0, 6));
    }

    private static void formulas() {
        says(8, "e = both {or both}.");
        worth(1, "0 or 0 or 7");
        worth(0, "0 or 0 or 0");
        worth(1, "1 or 0 and 0");
        worth(1, "0 and 0 or 1");
        faulty(2, "pull 1 or^");
        faulty(2, "pull 1 or ^;");
        faulty(2, "pull 1 or ^or 1;");
        faulty(2, "pull ^or 1;");
        says(8, "both = one {and one}.");
        worth(1, "1 and 2 and 3");
        worth(0, "1 and 2 and 0");
        worth(1, "1 and not 0 and 3>2");
        faulty(2, "pull 1 and^");
        faulty(2, "pull 1 and ^;");
        faulty(2, "pull 1 and ^or 1;");
        faulty(2, "pull ^and 1;");
        says(8, "one = not one | sum [(< | > | =) sum].");
        worth(1, "not not 5");
        worth(0, "not 1<2");
        worth(1, "1+1<3");
        worth(1, "3>1+1");
        worth(1, "1+1=2");
        worth(1, "(1<2)=1");
        faulty(2, "pull not^");
        faulty(2, "pull not ^;");
        faulty(2, "pull not ^and 1;");
        faulty(2, "pull ^<1;");
        faulty(2, "pull 1<^;");
        faulty(2, "pull 1<^not 1;");
        faulty(2, "pull 1<2^<3;");
        faulty(2, "pull 1>2^=3;");
        faulty(2, "pull 1=2^>3;");
        faulty(2, "pull not 1=2^<3;");
        says(8, "sum = term {(+ | -) term}.");
        worth(-4, "1-2-3");
        worth(2, "1-2+3");
        worth(7, "1+2*3");
        faulty(2, "pull ^-1;");
        faulty(2, "pull ^+1;");
        faulty(2, "pull 1-^-1;");
        faulty(2, "pull 1+^;");
        faulty(2, "pull 1+^not 1;");
        says(8, "term = unit {(* | / | %) unit}.");
        worth(1, "8/4/2");
        worth(9, "7%4*3");
        worth(12, "7/2*4");
        faulty(2, "pull ^*1;");
        faulty(2, "pull 1*^/1;");
        faulty(2, "pull 1%^;");
        faulty(2, "pull 1*^not 1;");
        says(8, "unit = N | grass | salt | others | home | here | day | ( e ).");
        worth(0, "0");
        worth(9999, "9999");
        worth(5, "grass");
        worth(8, "salt");
        worth(2, "others");
        worth(3, "home");
        worth(0, "here");
        worth(1, "day");
        worth(9, "(1+2)*3");
        worth(1, "2*(1 or 0)-1");
        worth(7, "1+2*(3)");
        worth(6, "9-(2)-(1)");
        worth(1, "1 and (0 or (2))");
        for (String word : new String[] {"gorge", "by", "green", "flock", "bride", "groom", "at", "size", "wants", "feud",
            "pull", "rain", "of", "evenings", "draw", "or", "and", "a"}) {
            faulty(2, A + "pull ^" + word + ";");
        }
        faulty(2, "pull (^;");
        faulty(2, "pull (^);");
        faulty(2, "pull (1^;");
        faulty(2, "pull (1^");
        faulty(2, "pull (1 ^2);");
        faulty(2, "pull ((1)^;");
        faulty(2, "pull (1)^);");
    }

    private static void depths() {
        String thirty = "1" + "+1".repeat(29);
        says(5, "60 units in all, 30 in one e");
        due(30, sound(0, "pull " + thirty + ";").about(13));
        faulty(2, "pull " + thirty + "+^1;");
        faulty(2, "pull " + thirty + " or ^grass;");
        faulty(2, "pull " + thirty + " and not ^day;");
        faulty(2, "pull " + thirty + "+^(1);");
        due(30, sound(0, "pull 1" + "*(1)".repeat(14) + "*1;").about(13));
        faulty(2, "pull 1" + "*(1)".repeat(14) + "*(^1);");
        due(30, sound(0, "pull (1" + "+1".repeat(28) + ");").about(13));
        faulty(2, "pull (1" + "+1".repeat(28) + "+^1);");
        due(30, sound(0, "pull " + "(".repeat(7) + "1" + "+1".repeat(22) + ")".repeat(7) + ";").about(13));
        faulty(2, "pull " + "(".repeat(7) + "1" + "+1".repeat(22) + "+^1" + ")".repeat(7) + ";");
        says(5, "(a unit ( e ), or a one behind not, within 6 others at most).");
        sound(0, "pull (((((((1)))))));");
        faulty(2, "pull (((((((^(1))))))));");
        sound(0, "pull not not not not not not not 1;");
        faulty(2, "pull not not not not not not not ^not 1;");
        sound(0, "pull not not not not not not (1);");
        faulty(2, "pull not not not not not not not ^(1);");
        sound(0, "pull (((((( not 1 ))))));");
        faulty(2, "pull ((((((( ^not 1 )))))));");
        sound(0, "pull not(not(not(not 1)));");
        faulty(2, "pull not(not(not(not ^(1))));");
        sound(0, "pull (not(not(not(1))));");
        faulty(2, "pull (not(not(not(^not 1))));");
        sound(0, "pull (((((((1)))))))+(((((((1))))))) and not not not not not not not 1;");
        faulty(2, "pull (((((((1)))))))+(((((((^(1))))))));");
        sound(0, "pull " + "(".repeat(6) + "(1) or (1) and (1)" + ")".repeat(6) + ";");
        faulty(2, "pull ((((((not 1+^(1)))))));");
    }

    private static void tokens() {
        says(5, "TOKENS: words (a .. z, 8 at most)");
        sound(1, "flock azazazaz bride at 0 0 size 1;");
        sound(2, "flock zzzzzzzz bride at 0 0 size 1;flock zzzzzzz bride at 0 0 size 1;");
        sound(2, "flock aaaaaaaa bride at 0 0 size 1;flock aaaaaaab bride at 0 0 size 1;");
        sound(2, "flock aaaaaaaa bride at 0 0 size 1;flock baaaaaaa bride at 0 0 size 1;");
        faulty(1, "flock ^aaaaaaaaa bride at 0 0 size 1;");
        faulty(1, "flock a^` bride at 0 0 size 1;");
        faulty(1, "flock a^{ bride at 0 0 size 1;");
        faulty(1, "flock ^A bride at 0 0 size 1;");
        faulty(1, "flock a^Z bride at 0 0 size 1;");
        says(5, "N (1 to 4 digits)");
        due(144, sound(0, "green 9;").grass());
        due(144, sound(0, "green 09;").grass());
        due(144, sound(0, "green 0009;").grass());
        due(0, sound(0, "green 0000;").grass());
        due(9999, Texts.of(A + "pull 9999;").pull(0, 0));
        due(1234, Texts.of(A + "pull 1234;").pull(0, 0));
        due(567, Texts.of(A + "pull 0567;").pull(0, 0));
        due(890, Texts.of(A + "pull 890;").pull(0, 0));
        faulty(1, "green ^00009;");
        says(5, "signs ; ( ) < > = + - * / %");
        for (int i = 0; i < SIGNS.length(); i++) {
            faulty(2, "^" + SIGNS.charAt(i));
            faulty(2, "green ^" + SIGNS.charAt(i));
        }
        faulty(2, "green 1^<=;");
        says(5, "blanks (32, 10) part them or not");
        sound(0, "green9;draw0;pull(1)<2 and(3)or 4;");
        sound(0, "\n green \n\n 9\n;\n");
        sound(0, "gorge2 by3;rain1 of2;");
        faulty(2, "^gr een 9;");
        faulty(2, "draw 1 ^2;");
        faulty(2, "pull 1< ^<2;");
        says(5, "each is as long as can be");
        sound(1, "flock bridex bride at 0 0 size 1;");
        sound(1, "flock nota groom at 0 0 size 1;");
        due(12, sound(0, "draw 12;").about(6));
        due(123, sound(0, "draw 123;").about(6));
        faulty(2, "^greens 9;");
        faulty(2, "pull ^ora;");
        faulty(2, "pull ^nota;");
        faulty(2, "^grassat 1;");
        faulty(1, "^eveningss 9;");
        faulty(1, "^atatatata 9;");
        faulty(2, "^atatatat 9;");
        says(5, "no letter directly behind an N");
        faulty(1, "gorge ^2by 3;");
        faulty(1, "rain ^1of 3;");
        faulty(1, "pull ^1or 2;");
        faulty(1, "pull ^9z;");
        faulty(2, "green 9 ^a;");
        sound(0, "rain1 of2;");
        faulty(1, "green 9^A;");
    }

    private static void words() {
        says(5, "(what is none of these");
        for (int sign = 0; sign < 256; sign++) {
            boolean letterOrDigit = sign >= 'a' && sign <= 'z' || sign >= '0' && sign <= '9';
            boolean signOrBlank = SIGNS.indexOf(sign) >= 0 || sign == 32 || sign == 10;
            if (!letterOrDigit && !signOrBlank) {
                faultyAt(1, 1, "\n" + (char) sign);
            }
        }
        faulty(1, "green ^\t9;");
        faulty(1, "green 9;^\r\n");
        faulty(1, "green 9;^\0");
        faulty(1, "green 9^\u00e9;");
        says(5, "a longer word");
        faulty(1, "green 9;\n ^abcdefghi 9;");
        faulty(1, "flock ^zzzzzzzzzzzzz");
        faulty(1, "^greengreen 9;");
        faulty(2, "^greengre 9;");
        says(5, "more digits");
        faulty(1, "green  ^00000;");
        faulty(1, "green ^99999;");
        faulty(1, "draw ^4294967297;");
        faulty(1, "pull ^10000;");
        says(5, "a number with a letter behind it: no TOKEN, at its first byte)");
        faulty(1, "green  ^9a;");
        faulty(1, "draw ^123z 4;");
        faulty(1, "draw ^1234z;");
        faulty(1, "draw ^12345z;");
        says(5, "Words that stand for themselves here are no NAMES.");
        for (String word : RESERVED) {
            faulty(2, "flock ^" + word + " bride at 0 0 size 1;");
            faulty(2, A + B + "wants ^" + word + " b 1;");
            faulty(2, A + B + "wants a ^" + word + " 1;");
            faulty(2, A + B + "feud ^" + word + " b;");
            faulty(2, A + B + "feud a ^" + word + ";");
        }
        for (String word : new String[] {"n", "name", "e", "both", "one", "sum", "term", "unit", "line", "gorges", "da",
            "o", "pulls", "cell", "evening", "days", "sal", "ga"}) {
            sound(1, "flock " + word + " bride at 0 0 size 1;");
        }
    }

    private static void toldGorge() {
        says(4, "gorge (COLUMNS, ROWS: 2 .. 5 both");
        for (int columns = 2; columns <= 5; columns++) {
            for (int rows = 2; rows <= 5; rows++) {
                GoatMatches x = sound(0, "gorge " + columns + " by " + rows + ";");
                due(columns, x.about(1));
                due(rows, x.about(2));
                due(5 * columns * rows, x.grass());
                due(-1, x.ground(columns * rows, 0));
            }
        }
        for (int n : new int[] {0, 1, 6, 7, 10, 9999}) {
            faulty(4, "gorge ^" + n + " by 2;");
            faulty(4, "gorge 2 by ^" + n + ";");
        }
        says(4, "; 4 by 4 if not told)");
        due(4, sound(0, "green 1;").about(1));
        due(4, Texts.of("green 1;").about(2));
        GoatMatches x = Texts.of("gorge 2 by 3;");
        due(0, x.gorge());
        due(4, x.about(1));
        due(4, x.about(2));
        says(4, "once, ahead of all others");
        faulty(2, "gorge 2 by 2;^gorge 2 by 2;");
        for (String other : new String[] {"green 1;", "grass 0 0 1;", A, "pull 1;", "rain 1 of 1;", "evenings 1;",
            "draw 1;", A + B + "wants a b 1;", A + B + "feud a b;"}) {
            faulty(2, other + "^gorge 2 by 2;");
            due(2, Texts.of("gorge 2 by 3;" + other).about(1));
        }
        says(4, "green (grass of each CELL, 0 .. 9");
        due(0, sound(0, "green 0;").grass());
        due(144, sound(0, "green 9;").grass());
        due(9, sound(0, "gorge 2 by 2;green 9;grass 0 0 9;grass 0 1 0;grass 1 0 0;").ground(3, 0));
        due(11, sound(0, "gorge 2 by 2;grass 0 0 2;green 3;").grass());
        faulty(4, "green ^10;");
        faulty(4, "green ^9999;");
        says(4, "; 5) once");
        due(80, sound(0, "draw 1;").grass());
        faulty(2, "green 1;^green 1;");
        faulty(2, "green 1;draw 1;^green 2;");
        says(4, "at most 8 grasses");
        String seven = "grass 0 0 1;grass 1 0 1;grass 2 0 1;grass 3 0 1;grass 0 1 1;grass 1 1 1;grass 2 1 1;";
        due(48, sound(0, seven + "grass 3 1 1;").grass());
        faulty(2, seven + "grass 3 1 1;^grass 0 2 1;");
        faulty(2, seven + "grass 3 1 1;^grass");
        says(4, "(a column, a row, from 0 on");
        due(2, sound(0, "gorge 5 by 2;grass 4 1 2;").ground(9, 0));
        due(2, sound(0, "gorge 2 by 5;grass 1 4 2;").ground(9, 0));
        due(2, sound(0, "gorge 5 by 2;grass 0 0 2;").ground(0, 0));
        due(2, sound(0, "gorge 5 by 2;grass 0 1 2;").ground(5, 0));
        faulty(4, "gorge 5 by 2;grass ^5 0 2;");
        faulty(4, "gorge 5 by 2;grass 0 ^2 2;");
        faulty(4, "gorge 2 by 5;grass ^2 0 2;");
        faulty(4, "gorge 2 by 5;grass 1 ^5 2;");
        faulty(4, "gorge 5 by 5;grass 0 ^5 1;");
        faulty(4, "gorge 5 by 5;grass 4 4 1;grass 4 ^5 1;");
        faulty(4, "grass ^9999 9999 9999;");
        says(4, "each CELL once");
        faulty(3, "grass 2 1 1;grass 2 ^1 2;");
        faulty(3, "grass 2 1 1;grass 0 0 1;grass 2 ^1 1;");
        due(80 - 4 - 4 - 4, sound(0, "grass 2 1 1;grass 1 2 1;grass 1 1 1;").grass());
        says(4, "; 0 .. 9)");
        due(75, sound(0, "grass 0 0 0;").grass());
        due(84, sound(0, "grass 0 0 9;").grass());
        faulty(4, "grass 0 0 ^10;");
        faulty(4, "grass 0 0 ^9999;");
    }

    private static void toldFlocks() {
        says(4, "6 FLOCKS");
        sound(6, SIX_BRIDES);
        faulty(2, SIX_BRIDES + "^flock h groom at 0 0 size 1;");
        faulty(2, SIX_BRIDES + "^flock a bride at 0 0 size 1;");
        faulty(2, SIX_BRIDES + "draw 1;^flock");
        says(4, "(of brides, or grooms");
        due(0, sound(1, A).flock(0, 1));
        due(1, sound(1, B).flock(0, 1));
        sound(6, SIX_BRIDES.replace("bride", "groom"));
        faulty(2, "flock a ^at 0 0 size 1;");
        faulty(2, "flock a ^a at 0 0 size 1;");
        says(4, "at a column, a row: its home");
        due(9, sound(1, "gorge 5 by 2;flock a bride at 4 1 size 1;").flock(0, 5));
        due(9, sound(1, "gorge 2 by 5;flock a bride at 1 4 size 1;").flock(0, 5));
        due(3, sound(1, "flock a bride at 3 0 size 1;").flock(0, 5));
        due(12, sound(1, "flock a bride at 0 3 size 1;").flock(0, 5));
        faulty(4, "gorge 5 by 2;flock a bride at ^5 0 size 1;");
        faulty(4, "gorge 5 by 2;flock a bride at 4 ^2 size 1;");
        faulty(4, "gorge 2 by 5;flock a bride at ^2 0 size 1;");
        faulty(4, "gorge 2 by 5;flock a bride at 1 ^5 size 1;");
        says(4, "size 1 .. 9)");
        due(1, sound(1, "flock a bride at 0 0 size 1;").flock(0, 2));
        due(9, sound(1, "flock a bride at 0 0 size 9;").flock(0, 2));
        faulty(4, "flock a bride at 0 0 size ^0;");
        faulty(4, "flock a bride at 0 0 size ^10;");
        faulty(4, "flock a bride at 0 0 size ^9999;");
        says(4, "numbered as told, each sort by itself");
        GoatMatches x = sound(3, "green 1;flock c groom at 3 0 size 3;draw 1;flock b bride at 2 0 size 2;feud c b;"
                + "flock a groom at 1 0 size 1;wants b c 7;");
        for (int f = 0; f < 3; f++) {
            due(3 - f, x.flock(f, 0));
            due(3 - f, x.flock(f, 2));
        }
        due(1, x.about(3));
        due(7, x.wants(1, 0));
        due(0, sound(2, "flock b groom at 0 0 size 1;flock a bride at 0 0 size 1;").flock(1, 1));
    }

    private static void toldTwos() {
        String six = SIX_BRIDES.replace("c bride", "c groom").replace("d bride", "d groom");
        says(4, "15 feuds");
        StringBuilder fourteen = new StringBuilder(six);
        String names = "acdefg";
        for (int i = 0; i < 6; i++) {
            for (int j = 0; j < i; j++) {
                if (i < 5 || j < 4) {
                    fourteen.append("feud ").append(names.charAt(i)).append(' ').append(names.charAt(j)).append(';');
                }
            }
        }
        due(14, sound(6, fourteen.toString()).about(3));
        due(15, sound(6, fourteen + "feud f g;").about(3));
        faulty(2, fourteen + "feud f g;^feud f g;");
        faulty(3, fourteen + "feud f ^a;");
        says(4, "(two unlike FLOCKS told ahead, each two once in whichever order)");
        due(-1, sound(2, A + B + "feud a b;").mixed(0, 1));
        due(-1, sound(2, A + B + "feud b a;").mixed(0, 1));
        due(1, sound(6, six + "feud a e;").about(3));
        faulty(3, A + B + "feud a ^a;");
        faulty(3, A + B + "feud b ^b;");
        faulty(5, A + "feud a ^b;" + B);
        faulty(5, A + "feud ^b a;" + B);
        faulty(3, A + B + "feud a b;feud a ^b;");
        faulty(3, A + B + "feud a b;feud b ^a;");
        says(4, "wants (of a FLOCK another one of the other side, both told ahead");
        due(3, sound(2, A + B + "wants a b 3;").wants(0, 1));
        due(3, sound(2, A + B + "wants b a 3;").wants(1, 0));
        due(-1, Texts.of(A + B + "wants b a 3;").wants(0, 1));
        faulty(3, SIX_BRIDES + "wants a ^c 3;");
        faulty(3, A + B + "wants b ^b 3;");
        faulty(5, A + "wants a ^b 3;" + B);
        faulty(5, A + "wants ^b a 3;" + B);
        says(4, "each with each once in this order");
        GoatMatches x = sound(2, A + B + "wants a b 3;wants b a 4;");
        due(3, x.wants(0, 1));
        due(4, x.wants(1, 0));
        faulty(3, A + B + "wants a b 3;wants b a 4;wants a ^b 3;");
        faulty(3, A + B + "wants a b 3;wants b a 4;wants b ^a 3;");
        says(4, "; 0 .. 99)");
        due(0, sound(2, A + B + "wants a b 0;").wants(0, 1));
        due(99, sound(2, A + B + "wants a b 99;").wants(0, 1));
        faulty(4, A + B + "wants a b ^100;");
        faulty(4, A + B + "wants a b ^9999;");
    }

    /** The grass of a 2 by 2 gorge with none behind a day whose SEED's rest by 100 is 0, or 99. */
    private static long rained(int rest, String rain) {
        GoatMatches x = Texts.of("gorge 2 by 2;green 0;draw " + (rest == 0 ? 17 : 44) + ";" + rain);
        x.day();
        due(rest, x.about(6) % 100);
        return x.grass();
    }

    private static void toldNumbers() {
        says(4, "pull, rain (0 .. 100 by 100; of 1 .. 9");
        due(0, rained(0, "rain 0 of 9;"));
        due(36, rained(0, "rain 1 of 9;"));
        due(0, rained(99, "rain 99 of 9;"));
        due(4, rained(99, "rain 100 of 1;"));
        faulty(4, "rain ^101 of 1;");
        faulty(4, "rain ^9999 of 1;");
        faulty(4, "rain 1 of ^0;");
        faulty(4, "rain 1 of ^10;");
        says(4, "; 0 of 1)");
        due(0, rained(0, ""));
        says(4, "evenings (1 .. 20; 9)");
        due(1, sound(0, "evenings 1;").about(4));
        due(20, sound(0, "evenings 20;").about(4));
        due(9, sound(0, "").about(4));
        faulty(4, "evenings ^0;");
        faulty(4, "evenings ^21;");
        due(1, Texts.of(A + B + "evenings 1;").weds(0));
        due(9, Texts.of(A + B).weds(0));
        due(20, Texts.of(A + B + "evenings 20;").weds(0));
        says(4, "draw (0 .. 999; 0) once each");
        due(0, sound(0, "draw 0;").about(6));
        due(999, sound(0, "draw 999;").about(6));
        due(0, sound(0, "").about(6));
        faulty(4, "draw ^1000;");
        faulty(2, "pull 1;^pull 1;");
        faulty(2, "rain 1 of 1;draw 1;^rain 1 of 1;");
        faulty(2, "evenings 1;draw 1;^evenings 1;");
        faulty(2, "draw 1;^draw");
    }

    private static void faultPlaces() {
        says(5, "FAULTS, the first by its place (bytes from 0; the end: the text's length)");
        faulty(2, "^x");
        faulty(2, "\n\n  ^x");
        faulty(2, "green 9^");
        faulty(2, "green 9  \n^");
        faulty(4, "green ^10;green $");
        faulty(2, "green 1;^green 10;$");
        faulty(1, "green 1;draw ^$;green 10;");
        faulty(4, "grass ^4 9 10;");
        faulty(5, A + "wants ^x y 100;");
        faulty(3, A + "flock ^a groom at 9 9 size 0;");
        faulty(2, "flock a ^9 at 9 9 size 0;");
        says(5, ", at one place the least");
        String thirty = "1" + "+1".repeat(29);
        faulty(1, "pull " + thirty + "+^12345;");
        faulty(1, "pull " + thirty + "+^$;");
        faulty(2, "pull " + thirty + "+^);");
        faulty(1, "pull (((((((^$");
        faulty(1, "flock ^123456789 bride");
        faulty(1, "gorge ^2by 2;");
        faulty(1, "green ^99999;");
        faulty(2, SIX_BRIDES + "^flock a bride at 0 0 size 1;");
        faulty(2, SIX_BRIDES + "wants a ^size 100;");
    }

    private static void faultKinds() {
        says(5, ": 1 no TOKEN");
        faulty(1, "^$");
        faulty(1, "green 1;^9a");
        faulty(1, "green^$");
        faulty(1, "feud ^abcdefghi");
        says(5, "; 2 one that can't stand there");
        faulty(2, "^a");
        faulty(2, "^9");
        faulty(2, "green ^a;");
        faulty(2, A + "feud a ^9;");
        faulty(2, "feud^");
        says(5, "(one of a sort too many, a second time, gorge behind another line: at the line's first word");
        faulty(2, SIX_BRIDES + "\n ^flock $");
        faulty(2, "draw 1;\n ^draw $");
        faulty(2, "draw 1;\n ^gorge $");
        faulty(2, "gorge 2 by 2;\n ^gorge $");
        says(5, "; a unit too many, what is within 7 others: at its first TOKEN, or the not)");
        faulty(2, "pull 1" + "+1".repeat(29) + "+ ^(1);");
        faulty(2, "pull 1" + "+1".repeat(29) + " and not ^1;");
        faulty(2, "pull ((((((( ^(1");
        faulty(2, "pull ((((((( ^not 1");
        says(5, "; 3 a NAME told already");
        faulty(3, A + "flock ^a bride at 0 0 size 1;");
        faulty(3, A + B + "flock ^a $");
        sound(2, A + "flock aa bride at 0 0 size 1;");
        says(5, ", grass of a CELL told already (at its row)");
        faulty(3, "grass 3 3 1;grass 3 ^3 10;");
        faulty(3, "grass 3 3 1;grass 3 ^3");
        faulty(2, "grass 3 3 1;grass 3 ^;");
        faulty(2, "grass 3 3 1;grass 3 ^=3");
        faulty(4, "grass 3 3 1;grass ^7 3");
        faulty(4, "gorge 2 by 3;grass 0 1 1;grass ^2 0 1;");
        faulty(4, "gorge 2 by 3;grass 1 2 1;grass 1 ^3 1;");
        says(5, ", a wants of two of one side, told already");
        faulty(3, SIX_BRIDES + "wants a ^g 100;");
        faulty(3, A + B + "wants a b 1;wants a ^b 100;");
        says(5, ", a feud of one with itself, told already");
        faulty(3, A + B + "feud b ^b $");
        faulty(3, A + B + "feud a b;feud b ^a $");
        says(5, "(each at the second NAME)");
        faulty(3, A + B + "feud   a  \n ^a;");
        faulty(3, A + B + "wants   a  \n ^a;");
        says(5, "; 4 a number that can't be");
        faulty(4, "green ^10;");
        faulty(4, "gorge ^0 by 0;");
        faulty(4, "flock a bride at ^4 0 size 1;");
        says(5, "; 5 a NAME that no FLOCK has.");
        faulty(5, A + B + "wants ^c b 1;");
        faulty(5, A + B + "wants a ^c 1;");
        faulty(5, A + B + "feud ^c b;");
        faulty(5, A + B + "feud a ^c;");
        faulty(5, A + B + "feud a ^aa;");
    }

    private static GoatMatches busy() {
        GoatMatches x = Texts.of(TWO);
        x.later(7);
        days(x, 3);
        x.salt(0);
        x.pen(1);
        x.salt(1);
        x.undo();
        x.image(0);
        x.image(2);
        x.seen(1, 0, 1, true);
        x.wells();
        return x;
    }

    private static void gorge() {
        says(4, "The TAPE (empty then) is the GORGE");
        GoatMatches x = busy();
        Texts.tape(x, "green 2;");
        due(0, x.gorge());
        due(32, x.grass());
        due(0, x.about(12));
        due(0, x.gorge());
        due(80, x.grass());
        says(4, "(all as told, DAY 0, no salt, nobody penned, MIXED, MATCHED, no ACTS are kept, nothing is SEEN, "
                + "nothing lies there, BOXES are empty then; the TIME stays)");
        x = busy();
        GoatMatches fresh = Texts.of(TWO);
        fresh.later(7);
        Texts.tape(x, TWO);
        due(2, x.gorge());
        same(all(fresh), all(x));
        due(-1, x.back(0));
        due(-1, x.back(2));
        due(false, x.undo());
        due(false, x.redo());
        due(false, x.untell(0));
        due(0, x.mixed(0, 1));
        again();
        says(4, ": how many FLOCKS");
        Texts.tape(x, SIX_BRIDES);
        due(6, x.gorge());
        Texts.tape(x, A);
        due(1, x.gorge());
        due(0, x.gorge());
        says(4, "; NONE: a FAULT (the TAPE is empty then, too; all else stays).");
        x = busy();
        String before = all(x);
        String faulty = "gorge 5 by 5;green 0;flock a groom at 4 4 size 9;pull day;rain 9 of 9;evenings 1;draw 5;oops";
        int pull = x.pull(0, 0);
        Texts.tape(x, faulty);
        due(-1, x.gorge());
        due(0, x.about(12));
        same(before.replace("faults 0,-1", "faults 2," + faulty.indexOf("oops")), all(x));
        due(pull, x.pull(0, 0));
        due(true, x.redo());
        due(true, x.undo());
        due(3, x.back(2));
        due(3, x.back(0));
        due(true, x.untell(0));
    }

    /** Nothing of a text that was read before, whole or up to its fault, is left in what is told next. */
    private static void again() {
        StringBuilder rich = new StringBuilder("gorge 5 by 4;green 9;");
        for (int cell = 0; cell < 8; cell++) {
            rich.append("grass ").append(cell % 5).append(' ').append(cell / 5).append(" 0;");
        }
        rich.append(A).append(B).append("flock c bride at 4 3 size 9;flock d groom at 4 3 size 9;")
                .append("flock e bride at 4 3 size 9;flock f groom at 4 3 size 9;feud a b;feud c d;wants a b 9;wants b a 9;")
                .append("pull not 1;rain 100 of 9;evenings 1;draw 999;");
        GoatMatches x = new GoatMatches();
        for (String next : new String[] {TWO, "", A + B + "pull 4;", A}) {
            for (int n = 0; n < 3; n++) {
                Texts.tape(x, rich.toString());
                due(6, x.gorge());
                x.day();
                x.pen(2);
                x.wells();
            }
            Texts.tape(x, next);
            due(Texts.of(next).about(0), x.gorge());
            isLike(Texts.of(next), x);
            Texts.tape(x, rich + "pull");
            due(-1, x.gorge());
            Texts.tape(x, next);
            x.gorge();
            isLike(Texts.of(next), x);
        }
    }

    private static void isLike(GoatMatches fresh, GoatMatches x) {
        for (int n = 0; n < 3; n++) {
            same(all(fresh), all(x));
            for (int f = 0; f < 3; f++) {
                for (int c = 0; c < 21; c++) {
                    due(fresh.pull(f, c), x.pull(f, c));
                }
                due(fresh.wants(f, 1 - f), x.wants(f, 1 - f));
                due(fresh.reach(f), x.reach(f));
            }
            x.day();
            fresh.day();
        }
    }

    private static void fault() {
        says(5, "Of the latest gorge() what 0: its FAULT (0: without; ahead of any, too), 1: its place (NONE).");
        GoatMatches x = new GoatMatches();
        due(0, x.fault(0));
        due(-1, x.fault(1));
        Texts.tape(x, "green 10;");
        due(0, x.fault(0));
        x.gorge();
        due(4, x.fault(0));
        due(6, x.fault(1));
        Texts.tape(x, "?");
        due(4, x.fault(0));
        x.gorge();
        due(1, x.fault(0));
        due(0, x.fault(1));
        x.gorge();
        due(0, x.fault(0));
        due(-1, x.fault(1));
        says(5, "NONE for another what.");
        Texts.tape(x, "green 10;");
        x.gorge();
        for (int what : new int[] {-1, 2, 3, LEAST, MOST}) {
            due(-1, x.fault(what));
        }
    }
}
