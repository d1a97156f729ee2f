/** The edges of what would be, while nothing is done: WILL to LAW, BARE; promises 20 to 26, 28 and 32. */
final class EdgesOfForesight extends Edges {
    private static final String A = "flock a bride at 0 0 size 1;";
    private static final String B = "flock b groom at 0 0 size 1;";
    private static final String C = "flock c bride at 0 0 size 1;";
    private static final String D = "flock d groom at 0 0 size 1;";
    /** Goes to salt farther from home, and never back. */
    private static final String OUTWARD = "pull salt*home;";

    private EdgesOfForesight() { }

    static void run() {
        nothingIsDone();
        will();
        mixes();
        weds();
        bachelors();
        trick();
        trickOfLikeOnes();
        trickRefused();
        hold();
        holdRefused();
        lead();
        leadRefused();
        law();
        bare();
    }

    /** b first leaves home on a day on which day is more than late, for the CELL in which a is penned. */
    private static GoatMatches late(int late, int evenings) {
        GoatMatches x = Texts.of("gorge 2 by 2;green 0;grass 0 0 1;flock b groom at 1 0 size 1;flock a bride at 1 1 size 1;"
                + "pull home*(day>" + late + ");evenings " + evenings + ";");
        x.drive(1, 2);
        x.drive(1, 0);
        x.pen(1);
        return x;
    }

    private static void nothingIsDone() {
        says(20, "(By what is now; nothing is done.)");
        GoatMatches x = Texts.of(TWO + "wants a b 1;wants b a 1;");
        x.day();
        x.salt(4);
        x.undo();
        x.calm();
        String before = all(x);
        x.will(0, 60);
        x.mixes(0, 1, 60);
        x.weds(0);
        x.trick(0, 1, 9, 20, 1);
        x.trick(0, 1, 1, 20, 0);
        x.hold(0, 1, 20, 1);
        x.lead(0, 1, 20, 1);
        x.bachelors(60);
        x.law(1);
        x.reach(0);
        x.bare();
        x.ledges(0);
        x.ask(9, 1, 0);
        same(before, all(x));
        due(true, x.redo());
        due(0, x.day());
        due(2, x.day());
    }

    private static void will() {
        says(20, "WILL: the CELL of a FLOCK behind n DAYS.");
        GoatMatches x = Texts.of(TWO);
        int[] a = {0, 0, 1, 4, 3, 3};
        for (int n = 0; n < a.length; n++) {
            due(a[n], x.will(0, n));
        }
        x.day();
        x.day();
        due(1, x.will(0, 0));
        due(4, x.will(0, 1));
        x.pen(0);
        due(1, x.will(0, 60));
        says(20, "WILL (n 0 .. 60); NONE if one can't be.");
        x = late(59, 1);
        due(1, x.will(0, 60));
        due(0, late(58, 1).will(0, 60));
        for (int odd : new int[] {-1, 61, LEAST, MOST}) {
            due(-1, x.will(0, odd));
            due(-1, x.will(odd, 0));
        }
        due(-1, x.will(2, 1));
        due(-1, new GoatMatches().will(0, 0));
    }

    private static void mixes() {
        says(21, "MIXES of two: how often they will be MIXED in n DAYS.");
        GoatMatches x = Texts.of(TWO);
        int[] often = {0, 0, 1, 2, 3};
        for (int n = 0; n < often.length; n++) {
            due(often[n], x.mixes(0, 1, n));
            due(often[n], x.mixes(1, 0, n));
        }
        days(x, 3);
        due(0, x.mixes(0, 1, 0));
        due(1, x.mixes(0, 1, 1));
        due(60, x.mixes(0, 1, 60));
        says(21, "MIXES (n 0 .. 60); NONE if they can't be, or one can't be.");
        due(0, late(59, 1).mixes(0, 1, 60));
        due(1, late(58, 1).mixes(0, 1, 60));
        for (int odd : new int[] {-1, 61, LEAST, MOST}) {
            due(-1, x.mixes(0, 1, odd));
            due(-1, x.mixes(0, odd, 1));
            due(-1, x.mixes(odd, 1, 1));
        }
        due(-1, x.mixes(0, 2, 1));
        due(-1, x.mixes(0, 0, 1));
        x = Texts.of(A + C + B + "feud a b;");
        due(-1, x.mixes(0, 1, 1));
        due(-1, x.mixes(0, 2, 1));
        due(-1, x.mixes(2, 0, 1));
        due(1, x.mixes(1, 2, 1));
    }

    private static void weds() {
        says(22, "In how many DAYS (60 at most) a FLOCK is MATCHED (0: it is already)");
        GoatMatches x = Texts.of(TWO);
        for (int n = 3; n >= 0; n--) {
            due(n, x.weds(0));
            due(n, x.weds(1));
            x.day();
        }
        due(0, x.weds(0));
        due(60, late(58, 1).weds(0));
        due(1, Texts.of(A + B + "evenings 1;").weds(1));
        says(22, "; NONE if it is not, or there is none such.");
        due(-1, late(59, 1).weds(0));
        due(-1, late(58, 2).weds(0));
        due(-1, Texts.of(A + B + C + "pull 0;").weds(2));
        for (int odd : new int[] {-1, 2, 6, LEAST, MOST}) {
            due(-1, x.weds(odd));
        }
        due(-1, new GoatMatches().weds(0));
    }

    private static void bachelors() {
        says(26, "FLOCKS that are not MATCHED behind n DAYS (0 .. 60), as bits");
        GoatMatches x = Texts.of(A + B + C + "flock d groom at 3 3 size 1;flock e groom at 0 0 size 1;"
                + "flock f bride at 3 0 size 1;pull 0;evenings 3;");
        due(63, x.bachelors(0));
        due(63, x.bachelors(2));
        due(8 + 32, x.bachelors(3));
        due(8 + 32, x.bachelors(60));
        days(x, 3);
        due(8 + 32, x.bachelors(0));
        due(3, late(59, 1).bachelors(60));
        due(0, late(58, 1).bachelors(60));
        due(0, new GoatMatches().bachelors(60));
        says(26, "; NONE for another number.");
        for (int odd : new int[] {-1, 61, LEAST, MOST}) {
            due(-1, x.bachelors(odd));
            due(-1, new GoatMatches().bachelors(odd));
        }
    }

    private static void trick() {
        says(23, "TRICK for two: the fewest CELLS (3 at most, without salt) to lay salt on now so that they are MIXED "
                + "so many evenings more in so many DAYS");
        for (int column = 1; column < 5; column++) {
            GoatMatches x = Texts.of("gorge 5 by 2;" + A + "flock b groom at " + column + " 0 size 1;" + OUTWARD);
            x.pen(1);
            due(column < 4 ? column : -1, x.trick(0, 1, 1, 20, 0));
            due(column < 4 ? (1 << column + 1) - 2 : -1, x.trick(0, 1, 1, 20, 1));
            due(column < 4 ? column : -1, x.trick(1, 0, 1, column, 0));
            due(-1, x.trick(0, 1, 1, column - 1, 0));
            for (int salted = 1; salted <= column; salted++) {
                x.salt(salted);
                due(column - salted, x.trick(0, 1, 1, column, 0));
                due((1 << column + 1) - (1 << salted + 1), x.trick(0, 1, 1, column, 1));
            }
        }
        // The other way, down to the CELL 0.
        for (int column = 1; column < 5; column++) {
            GoatMatches x = Texts.of("gorge 5 by 5;flock b groom at 0 0 size 1;flock a bride at " + column + " 0 size 1;"
                    + OUTWARD);
            x.pen(0);
            due(column < 4 ? column : -1, x.trick(0, 1, 1, 20, 0));
            due(column < 4 ? (1 << column) - 1 : -1, x.trick(0, 1, 1, 20, 1));
        }
        trickOverSalt();
        // What is not told draws by salt, too; so does salt alone; so does that of its own CELL, to stay there.
        GoatMatches x = Texts.of(TWO);
        due(2, x.trick(0, 1, 1, 1, 1));
        x = Texts.of("gorge 3 by 2;" + A + "flock b groom at 2 0 size 1;pull salt;");
        due(2, x.trick(0, 1, 1, 1, 1));
        x = Texts.of("gorge 2 by 2;grass 0 0 0;" + A + B);
        x.pen(1);
        due(1, x.trick(0, 1, 1, 1, 0));
        due(1, x.trick(0, 1, 1, 1, 1));
        x = Texts.of("gorge 2 by 2;grass 1 1 0;flock a bride at 1 1 size 1;flock b groom at 1 1 size 1;");
        x.pen(1);
        due(8, x.trick(0, 1, 1, 1, 1));
        // So many more, not so many in all; and they may be more than those.
        x = Texts.of(A + B + "pull 0;");
        days(x, 5);
        due(0, x.trick(0, 1, 9, 9, 0));
        due(-1, x.trick(0, 1, 9, 8, 0));
        due(0, x.trick(0, 1, 1, 20, 0));
        due(0, x.trick(0, 1, 1, 20, 1));
        due(0, x.trick(0, 1, 1, 1, 0));
        due(-1, x.trick(0, 1, 2, 1, 0));
    }

    /** Salt that is there, if but for a day, is not laid once more; when it has gone it is. */
    private static void trickOverSalt() {
        for (int column = 1; column < 4; column++) {
            for (int salted = 1; salted <= column; salted++) {
                GoatMatches x = Texts.of("gorge 5 by 2;" + A + "flock b groom at " + column + " 0 size 1;pull (salt>5)*home;");
                x.pen(1);
                due(column, x.trick(0, 1, 1, 9, 0));
                x.pen(0);
                x.salt(salted);
                days(x, 8);
                x.pen(0);
                due(1, x.ground(salted, 1));
                due(-1, x.trick(0, 1, 1, 9, 0));
                x.day();
                due(column, x.trick(0, 1, 1, 9, 0));
                due((1 << column + 1) - 2, x.trick(0, 1, 1, 9, 1));
            }
        }
    }

    private static void trickOfLikeOnes() {
        says(23, "; of like ones the least set as bits.");
        // Either of the other two corners would do.
        GoatMatches x = Texts.of("gorge 2 by 2;" + A + "flock b groom at 1 1 size 1;pull salt*(1-here);");
        due(1, x.trick(0, 1, 1, 1, 0));
        due(2, x.trick(0, 1, 1, 1, 1));
        // Either of the ways around would do.
        x = Texts.of("gorge 3 by 3;" + A + "flock b groom at 1 1 size 1;" + OUTWARD);
        x.pen(1);
        due(2, x.trick(0, 1, 1, 2, 0));
        due(2 + 16, x.trick(0, 1, 1, 2, 1));
        x.salt(3);
        due(16, x.trick(0, 1, 1, 2, 1));
        x = Texts.of("gorge 3 by 3;" + A + "flock b groom at 2 1 size 1;" + OUTWARD);
        x.pen(1);
        due(3, x.trick(0, 1, 1, 3, 0));
        due(2 + 4 + 32, x.trick(0, 1, 1, 3, 1));
        x = Texts.of("gorge 3 by 3;flock a bride at 2 2 size 1;flock b groom at 1 1 size 1;" + OUTWARD);
        x.pen(1);
        due(16 + 32, x.trick(0, 1, 1, 2, 1));
        x = Texts.of("gorge 3 by 3;flock a bride at 2 2 size 1;flock b groom at 1 0 size 1;" + OUTWARD);
        x.pen(1);
        due(3, x.trick(0, 1, 1, 3, 0));
        due(2 + 4 + 32, x.trick(0, 1, 1, 3, 1));
        x = Texts.of("gorge 5 by 5;flock a bride at 4 3 size 1;flock b groom at 4 4 size 1;" + OUTWARD);
        x.pen(1);
        due(1 << 24, x.trick(0, 1, 1, 1, 1));
    }

    private static void trickRefused() {
        says(23, "TRICK (1 .. 9 evenings, 1 .. 20 DAYS) what 0: how many, 1: which, as bits");
        GoatMatches x = Texts.of("gorge 3 by 2;" + A + "flock b groom at 1 0 size 1;" + OUTWARD);
        x.pen(1);
        due(1, x.trick(0, 1, 1, 1, 0));
        due(2, x.trick(0, 1, 1, 1, 1));
        due(1, x.trick(0, 1, 9, 9, 0));
        due(2, x.trick(0, 1, 9, 20, 1));
        for (int odd : new int[] {-1, 0, 10, LEAST, MOST}) {
            due(-1, x.trick(0, 1, odd, 20, 0));
        }
        for (int odd : new int[] {-1, 0, 21, LEAST, MOST}) {
            due(-1, x.trick(0, 1, 1, odd, 0));
        }
        for (int odd : new int[] {-1, 2, LEAST, MOST}) {
            due(-1, x.trick(0, 1, 1, 1, odd));
        }
        says(23, "; NONE if 3 are not enough, they can't be MIXED, or one can't be.");
        x = Texts.of("gorge 5 by 2;" + A + C + "flock b groom at 4 0 size 1;" + OUTWARD);
        x.pen(2);
        due(-1, x.trick(0, 2, 1, 20, 0));
        due(-1, x.trick(0, 2, 1, 20, 1));
        due(-1, Texts.of(A + "flock b groom at 1 0 size 1;pull 0;").trick(0, 1, 1, 20, 0));
        due(-1, x.trick(0, 1, 1, 1, 0));
        due(-1, x.trick(0, 0, 1, 1, 0));
        due(-1, Texts.of(A + B + "feud a b;").trick(0, 1, 1, 1, 0));
        for (int odd : new int[] {-1, 3, 6, LEAST, MOST}) {
            due(-1, x.trick(0, odd, 1, 1, 0));
            due(-1, x.trick(odd, 2, 1, 1, 0));
        }
        due(-1, new GoatMatches().trick(0, 1, 1, 1, 0));
    }

    private static void hold() {
        says(24, "HOLD for two: the fewest FLOCKS (that are not penned) to pen now so that they are not MIXED in so many DAYS");
        GoatMatches x = Texts.of(TWO);
        due(0, x.hold(0, 1, 1, 0));
        due(0, x.hold(0, 1, 1, 1));
        due(1, x.hold(0, 1, 2, 0));
        x.pen(0);
        due(0, x.hold(0, 1, 2, 0));
        x = Texts.of("gorge 3 by 2;pull others*9+grass;flock c bride at 1 1 size 1;flock a bride at 0 0 size 1;"
                + "flock b groom at 2 0 size 1;green 0;grass 1 0 5;");
        x.pen(0);
        due(2, x.hold(1, 2, 2, 0));
        due(6, x.hold(1, 2, 2, 1));
        x = Texts.of("gorge 3 by 2;pull others*9+grass;" + A + "flock b groom at 2 0 size 1;green 0;grass 1 0 5;");
        due(2, x.hold(0, 1, 2, 0));
        due(3, x.hold(0, 1, 2, 1));
        // a and b penned would do, too, and are less as bits; but c alone is fewer: then a and b pass each other.
        x = Texts.of("gorge 4 by 2;flock a groom at 3 1 size 1;flock b bride at 3 0 size 1;flock c bride at 2 1 size 1;"
                + "pull others;");
        due(1, x.hold(0, 1, 2, 0));
        due(4, x.hold(0, 1, 2, 1));
        x = Texts.of(A + B + "pull home;");
        due(1, x.hold(0, 1, 1, 0));
        x.pen(0);
        due(0, x.hold(0, 1, 1, 0));
        x = Texts.of(A + B + "pull home;");
        x.pen(1);
        due(0, x.hold(0, 1, 1, 0));
        says(24, "; of like ones the least set as bits.");
        x = Texts.of(TWO);
        due(1, x.hold(0, 1, 2, 1));
        due(1, x.hold(1, 0, 2, 1));
        x = Texts.of(A + B + "pull home;");
        due(1, x.hold(0, 1, 1, 1));
        x = Texts.of(C + A + B + "pull home;");
        due(2, x.hold(1, 2, 1, 1));
        due(1, x.hold(0, 2, 1, 1));
        x.pen(0);
        due(0, x.hold(0, 2, 1, 1));
    }

    private static void holdRefused() {
        says(24, "HOLD (1 .. 20 DAYS) what 0: how many, 1: which, as bits");
        GoatMatches x = Texts.of("gorge 2 by 2;flock b groom at 1 0 size 1;flock a bride at 1 1 size 1;pull home*(day>18);");
        x.drive(1, 2);
        x.drive(1, 0);
        x.pen(1);
        due(0, x.hold(0, 1, 19, 0));
        due(1, x.hold(0, 1, 20, 0));
        due(1, x.hold(0, 1, 20, 1));
        due(0, x.hold(0, 1, 1, 1));
        for (int odd : new int[] {-1, 0, 21, LEAST, MOST}) {
            due(-1, x.hold(0, 1, odd, 0));
        }
        for (int odd : new int[] {-1, 2, LEAST, MOST}) {
            due(-1, x.hold(0, 1, 1, odd));
        }
        says(24, "; NONE if all penned are not enough, they can't be MIXED, or one can't be.");
        x = Texts.of(A + C + B + D + "pull 0;feud a b;");
        due(-1, x.hold(1, 2, 1, 0));
        due(-1, x.hold(1, 2, 1, 1));
        due(-1, x.hold(0, 1, 1, 0));
        due(-1, x.hold(0, 2, 1, 0));
        due(-1, x.hold(3, 3, 1, 0));
        for (int odd : new int[] {-1, 4, 6, LEAST, MOST}) {
            due(-1, x.hold(0, odd, 1, 0));
            due(-1, x.hold(odd, 2, 1, 0));
        }
        due(-1, new GoatMatches().hold(0, 1, 1, 0));
    }

    private static void lead() {
        says(25, "LEAD of a FLOCK to another one: the CELL, its own or one beside it, to which it is to be driven now "
                + "(left there, if its own), so that both are MIXED most in so many DAYS");
        for (int column = 0; column < 3; column++) {
            for (int row = 0; row < 3; row++) {
                GoatMatches x = Texts.of("gorge 3 by 3;flock a bride at 1 1 size 1;flock b groom at " + column + " " + row
                        + " size 1;pull 0;");
                boolean near = Math.abs(column - 1) + Math.abs(row - 1) <= 1;
                due(near ? row * 3 + column : 4, x.lead(0, 1, 7, 0));
                due(near ? 7 : 0, x.lead(0, 1, 7, 1));
                due(4, x.flock(0, 0));
            }
        }
        says(25, "; of like ones its own, then the least number.");
        String around = "gorge 3 by 3;flock a bride at 1 1 size 1;flock b groom at 0 0 size 1;pull salt*(1-here);";
        GoatMatches x = Texts.of(around);
        x.pen(1);
        due(4, x.lead(0, 1, 1, 0));
        x.salt(0);
        due(1, x.lead(0, 1, 1, 0));
        due(1, x.lead(0, 1, 1, 1));
        x = Texts.of(around.replace("b groom at 0 0", "b groom at 2 2"));
        x.pen(1);
        x.salt(8);
        due(5, x.lead(0, 1, 1, 0));
        x = Texts.of(around.replace("b groom at 0 0", "b groom at 0 2"));
        x.pen(1);
        x.salt(6);
        due(3, x.lead(0, 1, 1, 0));
        x = Texts.of(around.replace("b groom at 0 0", "b groom at 1 1"));
        due(4, x.lead(0, 1, 1, 0));
        due(20, x.lead(0, 1, 20, 1));
    }

    private static void leadRefused() {
        says(25, "LEAD (1 .. 20 DAYS) what 0: the CELL, 1: how often");
        GoatMatches x = Texts.of("gorge 3 by 2;" + A + "flock b groom at 1 0 size 1;pull 0;");
        x.day();
        due(1, x.lead(0, 1, 1, 0));
        due(1, x.lead(0, 1, 1, 1));
        due(20, x.lead(0, 1, 20, 1));
        due(0, x.lead(1, 0, 20, 0));
        x = Texts.of(A + B + "pull 0;");
        days(x, 4);
        due(7, x.lead(0, 1, 7, 1));
        x = Texts.of("gorge 3 by 2;" + A + "flock b groom at 1 0 size 1;pull 0;");
        for (int odd : new int[] {-1, 0, 21, LEAST, MOST}) {
            due(-1, x.lead(0, 1, odd, 0));
        }
        for (int odd : new int[] {-1, 2, LEAST, MOST}) {
            due(-1, x.lead(0, 1, 1, odd));
        }
        says(25, "; NONE if it is penned, they can't be MIXED, or one can't be.");
        x = Texts.of(A + C + B + "feud a b;pull 0;");
        due(-1, x.lead(0, 1, 1, 0));
        due(-1, x.lead(0, 2, 1, 0));
        due(-1, x.lead(2, 2, 1, 0));
        due(0, x.lead(1, 2, 1, 0));
        x.pen(2);
        due(-1, x.lead(2, 1, 1, 0));
        due(0, x.lead(1, 2, 1, 0));
        x.pen(1);
        due(-1, x.lead(1, 2, 1, 1));
        x.pen(2);
        due(0, x.lead(2, 1, 1, 0));
        for (int odd : new int[] {-1, 3, 6, LEAST, MOST}) {
            due(-1, x.lead(2, odd, 1, 0));
            due(-1, x.lead(odd, 2, 1, 0));
        }
        due(-1, new GoatMatches().lead(0, 1, 1, 0));
    }

    private static void law() {
        says(28, "LAW by n: how many more FLOCKS would be MATCHED behind 60 DAYS, if evenings told n.");
        due(2, late(58, 2).law(1));
        due(0, late(59, 2).law(1));
        due(-2, late(58, 1).law(2));
        due(0, late(58, 1).law(1));
        String six = A + B + C + D + "flock e bride at 0 0 size 1;flock f groom at 0 0 size 1;";
        GoatMatches x = Texts.of(six + "pull home*(day>5);evenings 20;");
        for (int n = 1; n <= 20; n++) {
            due(0, x.law(n));
        }
        x = Texts.of(A + B + "pull 0;evenings 5;");
        days(x, 5);
        due(0, x.law(20));
        due(0, x.law(1));
        says(28, "LAW (n 1 .. 20); -100 for another n.");
        for (int odd : new int[] {-1, 0, 21, LEAST, MOST}) {
            due(-100, x.law(odd));
            due(-100, new GoatMatches().law(odd));
        }
        due(0, new GoatMatches().law(1));
        due(0, new GoatMatches().law(20));
    }

    private static void bare() {
        says(32, "BARE: the fewest DAYS (60 at most) behind which there is no grass at all.");
        due(0, Texts.of("green 0;").bare());
        String one = "gorge 2 by 2;green 0;grass 0 0 9;flock a bride at 0 0 size ";
        for (int size = 1; size <= 9; size++) {
            due((8 + size) / size, Texts.of(one + size + ";").bare());
        }
        GoatMatches x = Texts.of(one + "1;");
        days(x, 4);
        due(5, x.bare());
        due(5, x.grass());
        due(60, bareLate(58).bare());
        due(59, bareLate(57).bare());
        says(32, "BARE; NONE if 60 are not enough.");
        due(-1, bareLate(59).bare());
        due(-1, Texts.of("green 1;").bare());
        due(-1, new GoatMatches().bare());
        // It rains on the day on which the last is eaten.
        due(-1, Texts.of("gorge 2 by 2;green 0;grass 0 0 1;flock a bride at 0 0 size 9;rain 100 of 1;").bare());
    }

    private static GoatMatches bareLate(int late) {
        return Texts.of("gorge 2 by 2;green 0;grass 0 0 1;flock b groom at 1 0 size 1;pull home*(day>" + late + ");");
    }
}
