/** The edges of PAIRS, of WELLS and of what lies there; promises 27, 29, 30, 31 and 33. */
final class EdgesOfPairs extends Edges {
    private static final String A = "flock a bride at 0 0 size 1;";
    private static final String B = "flock b groom at 0 0 size 1;";
    /** 0 a and 1 c are brides, 2 b and 3 d are grooms, of sizes 1 to 4. */
    private static final String FOUR = "flock a bride at 0 0 size 1;flock c bride at 0 0 size 2;"
            + "flock b groom at 0 0 size 3;flock d groom at 0 0 size 4;";

    private EdgesOfPairs() { }

    static void run() {
        pairs();
        has();
        calm();
        reach();
        dear();
        calmAndDear();
        wells();
        wellsOfLikeOnes();
        lies();
    }

    private static void pairs() {
        says(29, "PAIRS: brides with grooms, each with one at most");
        GoatMatches x = Texts.of(FOUR + "wants a b 5;wants b a 5;wants c b 5;wants b c 5;");
        due(2, x.calm());
        lie(x, -1, 2, 1, -1);
        due(10, x.dear());
        x = Texts.of(A + "flock c bride at 0 0 size 1;");
        due(1, x.calm());
        lie(x, -1, -1);
        says(29, ", only such as have no feud and want each other (both are told)");
        x = Texts.of(FOUR + "wants a b 5;wants b a 5;feud b a;");
        due(1, x.calm());
        lie(x, -1, -1, -1, -1);
        due(0, x.dear());
        due(0, x.reach(0));
        x = Texts.of(FOUR + "wants a b 5;wants d c 5;");
        due(1, x.calm());
        lie(x, -1, -1, -1, -1);
        x = Texts.of(FOUR + "wants a b 5;wants b a 0;");
        due(2, x.calm());
        lie(x, -1, -1, -1, -1);
        due(5, x.dear());
        lie(x, 2, -1, 0, -1);
        // Grooms may be told ahead of brides.
        x = Texts.of(B + A + "wants a b 5;wants b a 4;");
        due(1, x.calm());
        lie(x, 1, 0);
        due(9, x.dear());
    }

    private static void has() {
        says(30, "; a FLOCK has what it wants of the one with which it is (0 alone).");
        GoatMatches x = Texts.of(FOUR + "wants a b 99;wants b a 1;");
        due(99, x.reach(0));
        due(1, x.reach(2));
        due(0, x.reach(1));
        due(0, x.reach(3));
        due(100, x.dear());
        due(0, Texts.of(FOUR).dear());
    }

    private static void calm() {
        says(29, "CALM are those in which no two who could be together, and are not, would both have more.");
        // Alone, both would have more, if but by 1.
        GoatMatches x = Texts.of(FOUR + "wants a b 1;wants b a 1;");
        due(1, x.calm());
        lie(x, 2, -1, 0, -1);
        // One of both would have as much as alone.
        x = Texts.of(FOUR + "wants a b 0;wants b a 99;");
        due(2, x.calm());
        // a would have more with d, but d as much.
        x = Texts.of(FOUR + "wants a b 5;wants b a 5;wants a d 6;wants d a 0;");
        due(2, x.calm());
        lie(x, 2, -1, 0, -1);
        x = Texts.of(FOUR + "wants a b 5;wants b a 5;wants a d 6;wants d a 1;");
        due(1, x.calm());
        lie(x, 3, -1, -1, 0);
        // As a has with either: neither is drawn away.
        x = Texts.of(FOUR + "wants a b 5;wants b a 5;wants a d 5;wants d a 5;");
        due(2, x.calm());
        lie(x, 2, -1, 0, -1);
        // A feud, or a want that is not told, draws nobody away.
        x = Texts.of(FOUR + "wants a b 5;wants b a 5;wants a d 9;wants d a 9;feud a d;");
        due(1, x.calm());
        lie(x, 2, -1, 0, -1);
        x = Texts.of(FOUR + "wants a b 5;wants b a 5;wants a d 9;");
        due(1, x.calm());
        lie(x, 2, -1, 0, -1);
    }

    private static final String CROSSED = "wants a b 2;wants a d 1;wants c d 2;wants c b 1;"
            + "wants b c 2;wants b a 1;wants d a 2;wants d c 1;";

    private static void reach() {
        says(30, "REACH of a FLOCK: the most that it has in some CALM ones.");
        GoatMatches x = Texts.of(FOUR + CROSSED);
        for (int f = 0; f < 4; f++) {
            due(2, x.reach(f));
        }
        x = Texts.of(FOUR + "wants a b 9;wants b a 1;wants c b 1;wants b c 2;wants a d 3;wants d a 3;");
        due(3, x.reach(0));
        due(1, x.reach(1));
        due(2, x.reach(2));
        due(3, x.reach(3));
        Texts.tape(x, FOUR + "wants a b 2;wants b a 1;");
        x.gorge();
        due(2, x.reach(0));
        due(0, x.reach(1));
        due(1, x.reach(2));
        due(0, x.reach(3));
        says(30, "REACH; NONE if there is no such FLOCK, or no CALM ones.");
        for (int odd : new int[] {-1, 4, 6, LEAST, MOST}) {
            due(-1, x.reach(odd));
        }
        due(-1, new GoatMatches().reach(0));
        due(0, Texts.of(A).reach(0));
        // There are always CALM ones, so no gorge can show the other edge.
        due(1, new GoatMatches().calm());
    }

    private static void dear() {
        says(27, "DEAR: the CALM ones in which all FLOCKS together have most");
        GoatMatches x = Texts.of(FOUR + CROSSED.replace("b c 2", "b c 3"));
        due(7, x.dear());
        lie(x, 3, 2, 1, 0);
        x = Texts.of(FOUR + CROSSED.replace("a b 2", "a b 3"));
        due(7, x.dear());
        lie(x, 2, 3, 0, 1);
        // Not calm, though all would have more: a and b have 1 each, c alone; d would give a 50, but wants a less.
        x = Texts.of(FOUR + "wants a b 1;wants b a 9;wants b c 8;wants c b 99;wants a d 0;wants d a 99;");
        due(10, x.dear());
        lie(x, 2, -1, 0, -1);
        says(27, "; of like ones the first (FLOCK by FLOCK: with which; alone first).");
        x = Texts.of(FOUR + CROSSED);
        due(6, x.dear());
        lie(x, 2, 3, 0, 1);
        x = Texts.of(FOUR + "wants a b 0;wants b a 0;wants c d 0;wants d c 0;");
        due(0, x.dear());
        lie(x, -1, -1, -1, -1);
        x = Texts.of(FOUR + "wants a b 5;wants b a 5;wants c b 5;wants b c 5;");
        due(10, x.dear());
        lie(x, -1, 2, 1, -1);
        x = Texts.of(FOUR + "wants a b 5;wants b a 5;wants a d 5;wants d a 5;");
        due(10, x.dear());
        lie(x, 2, -1, 0, -1);
    }

    private static void calmAndDear() {
        says(27, "DEAR: what all have together. It lies there then (FLOCK by FLOCK: with which).");
        GoatMatches x = Texts.of(FOUR + CROSSED.replace("b c 2", "b c 9"));
        due(13, x.dear());
        lie(x, 3, 2, 1, 0);
        due(0, new GoatMatches().dear());
        lie(new GoatMatches());
        says(29, "CALM: how many. The first lies there then (FLOCK by FLOCK: with which; alone first).");
        due(2, x.calm());
        lie(x, 2, 3, 0, 1);
        due(1, new GoatMatches().calm());
        String six = "flock a bride at 0 0 size 1;flock b groom at 0 0 size 1;flock c bride at 0 0 size 1;"
                + "flock d groom at 0 0 size 1;flock e bride at 0 0 size 1;flock f groom at 0 0 size 1;";
        StringBuilder all = new StringBuilder(six);
        for (String bride : new String[] {"a", "c", "e"}) {
            for (String groom : new String[] {"b", "d", "f"}) {
                all.append("wants ").append(bride).append(' ').append(groom).append(" 0;wants ").append(groom).append(' ')
                        .append(bride).append(" 0;");
            }
        }
        // None, 9 of one pair, 18 of two, 6 of three: all are calm if nobody ever has more.
        x = Texts.of(all.toString());
        due(34, x.calm());
        lie(x, -1, -1, -1, -1, -1, -1);
        x = Texts.of(all.toString().replace(" 0;w", " 1;w").replaceAll(" 0;$", " 1;"));
        due(6, x.calm());
        lie(x, 1, 0, 3, 2, 5, 4);
    }

    private static void wells() {
        says(31, "WELLS: in which order all FLOCKS drink, each as many hours as its size, each losing, for each hour that it "
                + "waits for others ahead, as much as its size, or 1 if it is MATCHED: so that least is lost together");
        GoatMatches x = Texts.of("flock a bride at 0 0 size 9;flock b groom at 0 0 size 2;flock c bride at 3 3 size 3;"
                + "pull 0;evenings 1;");
        // Nobody is matched: each order loses 9*2 + 9*3 + 2*3.
        due(51, x.wells());
        lie(x, 0, 1, 2);
        x.day();
        // c loses nothing, b 3 hours at 1, a 5 hours at 1.
        due(8, x.wells());
        lie(x, 2, 1, 0);
        x.breaks(0);
        due(51, x.wells());
        lie(x, 0, 1, 2);
        due(0, Texts.of("flock a bride at 0 0 size 9;").wells());
        x = Texts.of("flock a bride at 0 0 size 9;flock b groom at 0 0 size 9;flock c bride at 0 0 size 9;"
                + "flock d groom at 0 0 size 9;flock e bride at 0 0 size 9;flock f groom at 0 0 size 9;");
        due(81 * 15, x.wells());
        says(31, "WELLS: how much is lost. The FLOCKS lie there then, in their order.");
        lie(x, 0, 1, 2, 3, 4, 5);
        GoatMatches none = new GoatMatches();
        due(0, none.wells());
        lie(none);
    }

    private static void wellsOfLikeOnes() {
        says(31, "; of like ones the first (FLOCK by FLOCK).");
        String six = "flock a bride at 0 0 size 3;flock b groom at 0 0 size 3;flock c bride at 3 3 size 7;"
                + "flock d groom at 3 0 size 1;flock e bride at 2 2 size 2;flock f groom at 2 2 size 2;pull 0;evenings 1;";
        GoatMatches x = Texts.of(six);
        x.wells();
        lie(x, 0, 1, 2, 3, 4, 5);
        x.day();
        // c and d lose as much an hour as they take hours; then e and f, of 2 hours each; then a and b, of 3.
        due(7 + 8 + 10 + 12 + 15, x.wells());
        lie(x, 2, 3, 4, 5, 0, 1);
        // One of size 1 loses 1 an hour, matched or not.
        x = Texts.of("flock a bride at 0 0 size 1;flock b groom at 0 0 size 1;flock c bride at 3 3 size 2;pull 0;evenings 1;");
        x.day();
        due(1 + 4, x.wells());
        lie(x, 0, 1, 2);
    }

    private static void lies() {
        says(33, "The i-th number of what lies there");
        GoatMatches x = Texts.of(FOUR + CROSSED.replace("b c 2", "b c 9"));
        x.dear();
        int[] dear = {3, 2, 1, 0};
        for (int i = 0; i < 4; i++) {
            due(dear[i], x.lies(i));
        }
        x.wells();
        for (int i = 0; i < 4; i++) {
            due(i, x.lies(i));
        }
        says(33, "; -2 if there is none such.");
        for (int odd : new int[] {-1, 4, 6, LEAST, MOST}) {
            due(-2, x.lies(odd));
        }
        for (int i = 0; i < 7; i++) {
            due(-2, new GoatMatches().lies(i));
            due(-2, Texts.of(FOUR).lies(i));
        }
        x.gorge();
        due(-2, x.lies(0));
    }
}
