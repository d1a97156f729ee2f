/** The edges of what is so, of PULL and of a DAY; promises 6 to 12 and 17. */
final class EdgesOfDays extends Edges {
    private static final String A = "flock a bride at 0 0 size 1;";
    private static final String B = "flock b groom at 0 0 size 1;";
    private static final String C = "flock c bride at 0 0 size 1;";
    private static final String D = "flock d groom at 0 0 size 1;";

    private EdgesOfDays() { }

    static void run() {
        flock();
        ground();
        pull();
        pullOfTold();
        mixed();
        wants();
        sums();
        goes();
        goesOfLikeOnes();
        goesByTheBeginning();
        eats();
        salt();
        evening();
        match();
        seed();
        day();
    }

    private static void flock() {
        says(6, "A FLOCK is in a CELL (its home, at first)");
        GoatMatches x = Texts.of("gorge 5 by 4;flock a bride at 4 3 size 1;flock b groom at 0 0 size 9;");
        due(19, x.flock(0, 0));
        due(0, x.flock(1, 0));
        says(6, ", penned or not (not, at first)");
        due(0, x.flock(0, 3));
        due(0, x.flock(1, 3));
        says(6, ", MATCHED with another one or not (not).");
        due(-1, x.flock(0, 4));
        due(-1, x.flock(1, 4));
        says(6, "Of a FLOCK what 0: its CELL, 1: 0 of a bride, 1 of a groom, 2: its size, 3: 1 if penned, else 0, "
                + "4: with which it is MATCHED (NONE), 5: its home");
        x = Texts.of("gorge 5 by 4;flock a bride at 4 3 size 1;flock c bride at 3 3 size 2;flock b groom at 3 3 size 9;"
                + "evenings 1;pull 0;");
        x.drive(0, 18);
        x.drive(1, 13);
        x.pen(2);
        x.day();
        int[][] all = {{18, 0, 1, 0, 2, 19}, {13, 0, 2, 0, -1, 18}, {18, 1, 9, 1, 0, 18}};
        for (int f = 0; f < 3; f++) {
            for (int what = 0; what < 6; what++) {
                due(all[f][what], x.flock(f, what));
            }
        }
        says(6, "; -2 if there is none such, or for another what.");
        for (int odd : new int[] {-1, 3, 6, LEAST, MOST}) {
            due(-2, x.flock(odd, 0));
            due(odd == 3 ? 0 : -2, x.flock(0, odd));
            due(-2, x.flock(odd, odd));
        }
        due(-2, x.flock(3, 5));
        due(-2, new GoatMatches().flock(0, 1));
    }

    private static void ground() {
        says(7, "CELLS are numbered: row * COLUMNS + column.");
        due(9, Texts.of("gorge 5 by 2;grass 4 0 9;").ground(4, 0));
        due(9, Texts.of("gorge 5 by 2;grass 4 1 9;").ground(9, 0));
        due(9, Texts.of("gorge 2 by 5;grass 1 0 9;").ground(1, 0));
        due(9, Texts.of("gorge 2 by 5;grass 0 4 9;").ground(8, 0));
        due(9, Texts.of("grass 1 2 9;").ground(9, 0));
        says(7, "A CELL has grass, and days of salt (none at first).");
        GoatMatches x = Texts.of(TWO);
        for (int c = 0; c < 6; c++) {
            due(1, x.ground(c, 0));
            due(0, x.ground(c, 1));
        }
        says(7, "Of a CELL what 0: grass, 1: days of salt, 2: FLOCKS there, as bits");
        x = Texts.of(A + C + B + D + "flock e groom at 3 3 size 1;flock f groom at 3 3 size 1;green 4;pull 0;");
        x.salt(15);
        x.day();
        due(0, x.ground(0, 0));
        due(2, x.ground(15, 0));
        due(8, x.ground(15, 1));
        due(15, x.ground(0, 2));
        due(48, x.ground(15, 2));
        due(0, x.ground(1, 2));
        says(7, "; NONE if there is none such, or for another what.");
        for (int odd : new int[] {-1, 16, 25, LEAST, MOST}) {
            due(-1, x.ground(odd, 0));
            due(-1, x.ground(odd, 2));
            due(-1, x.ground(0, odd));
        }
        due(-1, x.ground(0, 3));
        due(-1, Texts.of("gorge 2 by 2;").ground(4, 0));
        due(-1, Texts.of("gorge 5 by 5;").ground(25, 0));
        due(5, Texts.of("gorge 5 by 5;").ground(24, 0));
    }

    private static void pull() {
        says(8, "PULL of a CELL for a FLOCK now");
        GoatMatches x = Texts.of(A + "flock b groom at 3 3 size 2;green 3;pull home*10+grass;");
        due(3, x.pull(0, 0));
        due(63, x.pull(1, 0));
        due(63, x.pull(0, 15));
        x.pen(0);
        x.day();
        due(2, x.pull(0, 0));
        says(8, "; -1000000 if one can't be.");
        for (int odd : new int[] {-1, 16, LEAST, MOST}) {
            due(-1000000, x.pull(0, odd));
            due(-1000000, x.pull(odd, 0));
        }
        due(-1000000, x.pull(2, 0));
        due(-1000000, new GoatMatches().pull(0, 0));
        due(-1000000, Texts.of("gorge 2 by 2;" + A).pull(0, 4));
        due(-999999, Texts.of(A + "pull 1-1000*1000;").pull(0, 0));
    }

    /** PULL where grass is 5, salt 8, others 2, home 3, here 0, day 1. */
    private static void worth(long want, String e) {
        GoatMatches x = Texts.of("gorge 4 by 3;grass 2 1 7;flock a bride at 0 0 size 1;flock b groom at 2 1 size 1;"
                + "flock c groom at 2 1 size 1;" + e);
        x.salt(6);
        x.pen(0);
        x.pen(1);
        x.pen(2);
        x.day();
        due(want, x.pull(0, 6));
    }

    private static void pullOfTold() {
        says(8, "PULL of a CELL for a FLOCK: what comes of pull");
        worth(7, "pull 7;");
        worth(0, "pull 0;");
        worth(13, "pull grass+salt;");
        // As long as a formula can be: 30 units, with 7 nots ahead of each.
        String nots = " not".repeat(7);
        worth(0, "pull" + (nots + " 1 or").repeat(29) + nots + " 1;");
        worth(1, "pull" + (nots + " 1 or").repeat(29) + nots + " 0;");
        says(8, "(its grass and 3 times its salt, if it is not told)");
        worth(29, "");
        says(8, "by grass, salt (days of it)");
        worth(5, "pull grass;");
        worth(8, "pull salt;");
        GoatMatches x = Texts.of(A + "pull salt;");
        due(0, x.pull(0, 5));
        x.salt(5);
        due(9, x.pull(0, 5));
        says(8, ", others (how many other FLOCKS are there)");
        x = Texts.of(A + B + C + "flock d groom at 1 0 size 1;pull others;");
        due(2, x.pull(0, 0));
        due(3, x.pull(3, 0));
        due(1, x.pull(0, 1));
        due(0, x.pull(3, 1));
        due(0, x.pull(0, 2));
        x.pen(1);
        due(2, x.pull(0, 0));
        says(8, ", home (how many columns, and rows, it is from its home, together)");
        x = Texts.of("gorge 5 by 4;flock a bride at 3 1 size 1;flock b groom at 0 3 size 1;pull home;");
        for (int c = 0; c < 20; c++) {
            due(Math.abs(c % 5 - 3) + Math.abs(c / 5 - 1), x.pull(0, c));
            due(Math.abs(c % 5) + Math.abs(c / 5 - 3), x.pull(1, c));
        }
        x.drive(0, 7);
        due(1, x.pull(0, 7));
        due(0, x.pull(0, 8));
        says(8, ", here (1 if the FLOCK is there, else 0)");
        x = Texts.of(A + B + "pull here;");
        x.drive(0, 1);
        due(0, x.pull(0, 0));
        due(1, x.pull(0, 1));
        due(1, x.pull(1, 0));
        due(0, x.pull(1, 1));
        says(8, ", day (the DAY, 0 at first");
        x = Texts.of(A + "pull day;");
        for (int day = 0; day < 12; day++) {
            due(day, x.pull(0, 3));
            x.day();
        }
        says(8, "; ints, wrapping");
        int great = 9999 * 9999 * 21;
        worth(great + 9999 * 9999, "pull 9999*9999*21+9999*9999;");
        worth(-great - 9999 * 9999, "pull 0-9999*9999*21-9999*9999;");
        worth(9999 * 9999 * 9999, "pull 9999*9999*9999;");
        worth(LEAST, "pull 4096*4096*128;");
        worth(MOST, "pull 4096*4096*128-1;");
        worth(1, "pull 4096*4096*128<0;");
        worth(LEAST, "pull 4096*4096*128/(0-1);");
        worth(0, "pull 4096*4096*128%(0-1);");
        worth(LEAST, "pull 0-4096*4096*128;");
        worth(0, "pull 4096*4096*256;");
        worth(0, "pull 4096*4096*256 or 0;");
        says(8, "; / cut, % its rest, both by 0: 0");
        worth(3, "pull 7/2;");
        worth(-3, "pull (0-7)/2;");
        worth(-3, "pull 7/(0-2);");
        worth(3, "pull (0-7)/(0-2);");
        worth(1, "pull 7%2;");
        worth(-1, "pull (0-7)%2;");
        worth(1, "pull 7%(0-2);");
        worth(0, "pull 7/0;");
        worth(0, "pull 7%0;");
        worth(0, "pull 0/0;");
        worth(5, "pull 7/(home-3)+grass;");
        says(8, "; relations, and, or, not are 1 or 0, of what is not 0).");
        worth(1, "pull 1<2;");
        worth(0, "pull 2<2;");
        worth(0, "pull 3<2;");
        worth(1, "pull 2=2;");
        worth(0, "pull 1=2;");
        worth(0, "pull 1>2;");
        worth(0, "pull 2>2;");
        worth(1, "pull 3>2;");
        worth(0, "pull not 5;");
        worth(0, "pull not (0-1);");
        worth(1, "pull not 0;");
        worth(1, "pull not not 5;");
        worth(1, "pull 2 and 4;");
        worth(1, "pull 2 and 0-4;");
        worth(0, "pull 2 and 0;");
        worth(0, "pull 0 and 2;");
        worth(1, "pull 0 or 5;");
        worth(1, "pull 0-5 or 0;");
        worth(1, "pull 4 or 2;");
        worth(0, "pull 0 or 0;");
    }

    private static void mixed() {
        says(9, "How often two were MIXED");
        GoatMatches x = Texts.of(A + C + B + D + "flock e groom at 1 0 size 1;feud a d;pull 0;");
        due(0, x.mixed(0, 2));
        for (int n = 1; n < 12; n++) {
            x.day();
            due(n, x.mixed(0, 2));
            due(n, x.mixed(2, 0));
            due(n, x.mixed(3, 1));
            due(0, x.mixed(0, 4));
        }
        says(9, "; NONE if they can't be (one side, a feud), or one can't be.");
        due(-1, x.mixed(0, 1));
        due(-1, x.mixed(3, 2));
        due(-1, x.mixed(0, 0));
        due(-1, x.mixed(0, 3));
        due(-1, x.mixed(3, 0));
        for (int odd : new int[] {-1, 5, 6, LEAST, MOST}) {
            due(-1, x.mixed(0, odd));
            due(-1, x.mixed(odd, 0));
            due(-1, x.mixed(odd, odd));
        }
    }

    private static void wants() {
        says(10, "What a FLOCK wants of another one");
        GoatMatches x = Texts.of(A + C + B + D + "wants a b 0;wants b a 99;wants a d 5;feud a b;");
        due(0, x.wants(0, 2));
        due(99, x.wants(2, 0));
        due(5, x.wants(0, 3));
        says(10, "(NONE if it is not told, of one of its side, of itself)");
        due(-1, x.wants(3, 0));
        due(-1, x.wants(1, 2));
        due(-1, x.wants(0, 1));
        due(-1, x.wants(2, 3));
        due(-1, x.wants(0, 0));
        due(-1, x.wants(3, 3));
        says(10, "; -2 if there is none such.");
        for (int odd : new int[] {-1, 4, 6, LEAST, MOST}) {
            due(-2, x.wants(0, odd));
            due(-2, x.wants(odd, 0));
            due(-2, x.wants(odd, odd));
        }
        due(-2, new GoatMatches().wants(0, 0));
    }

    private static void sums() {
        says(11, "All grass.");
        due(0, Texts.of("green 0;").grass());
        due(225, Texts.of("gorge 5 by 5;green 9;").grass());
        due(36, Texts.of("gorge 2 by 2;green 9;").grass());
        due(7, Texts.of("gorge 5 by 5;green 0;grass 4 4 7;").grass());
        says(12, "How many FLOCKS are MATCHED.");
        GoatMatches x = Texts.of(A + B + C + "pull 0;evenings 2;flock d groom at 0 0 size 1;"
                + "flock e groom at 0 0 size 1;");
        due(0, new GoatMatches().matched());
        due(0, x.matched());
        x.day();
        due(0, x.matched());
        x.day();
        due(4, x.matched());
        x.breaks(2);
        due(2, x.matched());
    }

    /** Where a flock of one is behind a day, in a gorge in which only one CELL has grass. */
    private static int goesTo(int columns, int rows, int home, int green) {
        GoatMatches x = Texts.of("gorge " + columns + " by " + rows + ";green 0;grass " + green % columns + " "
                + green / columns + " 9;flock a bride at " + home % columns + " " + home / columns + " size 1;");
        x.day();
        return x.flock(0, 0);
    }

    private static void goes() {
        says(17, "A DAY: each FLOCK that is not penned");
        GoatMatches x = Texts.of(A + B + "pull home;");
        x.pen(0);
        x.day();
        due(0, x.flock(0, 0));
        due(1, x.flock(1, 0));
        x.pen(0);
        x.pen(1);
        x.day();
        due(1, x.flock(0, 0));
        due(1, x.flock(1, 0));
        says(17, "(one column, or one row on");
        for (int columns = 2; columns <= 5; columns++) {
            for (int rows = 2; rows <= 5; rows++) {
                for (int own = 0; own < columns * rows; own++) {
                    for (int green = 0; green < columns * rows; green++) {
                        int apart = Math.abs(own % columns - green % columns) + Math.abs(own / columns - green / columns);
                        due(apart <= 1 ? green : own, goesTo(columns, rows, own, green));
                    }
                }
            }
        }
    }

    private static void goesOfLikeOnes() {
        says(17, " goes to the CELL of the greatest PULL of its own and those beside it");
        int[] cells = {4, 1, 3, 5, 7};
        for (int greatest : cells) {
            StringBuilder text = new StringBuilder("gorge 3 by 3;green 9;flock a bride at 1 1 size 1;");
            for (int cell : cells) {
                text.append("grass ").append(cell % 3).append(' ').append(cell / 3).append(cell == greatest ? " 8;" : " 7;");
            }
            for (String e : new String[] {"", "pull grass-9;", "pull (grass-9)*1000;"}) {
                GoatMatches x = Texts.of(text + e);
                x.day();
                due(greatest, x.flock(0, 0));
            }
        }
        GoatMatches x = Texts.of("gorge 3 by 3;flock a bride at 1 1 size 1;pull 4096*4096*128-here;");
        x.day();
        due(4, x.flock(0, 0));
        x = Texts.of("gorge 3 by 3;flock a bride at 1 1 size 1;pull 4096*4096*128+home;");
        x.day();
        due(1, x.flock(0, 0));
        says(17, "; of like ones its own, then the least number).");
        for (int set = 0; set < 32; set++) {
            StringBuilder text = new StringBuilder("gorge 3 by 3;green 0;flock a bride at 1 1 size 1;");
            int want = set == 0 ? 4 : -1;
            for (int i = 0; i < cells.length; i++) {
                if ((set >> i & 1) != 0) {
                    text.append("grass ").append(cells[i] % 3).append(' ').append(cells[i] / 3).append(" 6;");
                    want = want < 0 ? cells[i] : want;
                }
            }
            x = Texts.of(text.toString());
            x.day();
            due(want, x.flock(0, 0));
        }
    }

    private static void goesByTheBeginning() {
        says(17, ", all by what is so at its beginning,");
        GoatMatches x = Texts.of(A + "flock b groom at 1 0 size 1;pull others;");
        x.day();
        due(1, x.flock(0, 0));
        due(0, x.flock(1, 0));
        due(0, x.mixed(0, 1));
        // a eats all that drew b only behind b's going.
        x = Texts.of("green 0;grass 1 0 9;flock a bride at 0 0 size 9;flock b groom at 2 0 size 1;");
        x.day();
        due(1, x.flock(0, 0));
        due(1, x.flock(1, 0));
        due(1, x.mixed(0, 1));
        // The salt of the last day still draws, and the DAY is not up yet.
        x = Texts.of(A + "pull salt*home;");
        x.salt(1);
        x.pen(0);
        days(x, 8);
        x.pen(0);
        x.day();
        due(1, x.flock(0, 0));
        x = Texts.of(A + "pull home*day;");
        x.day();
        due(0, x.flock(0, 0));
        x.day();
        due(1, x.flock(0, 0));
    }

    private static void eats() {
        says(17, "FLOCK by FLOCK, as much grass as its size is eaten there (as far as there is).");
        GoatMatches x = Texts.of("gorge 2 by 2;green 9;flock a bride at 0 0 size 4;flock b groom at 0 0 size 3;"
                + "flock c groom at 1 1 size 9;pull 0;");
        x.pen(0);
        x.day();
        due(2, x.ground(0, 0));
        due(9, x.ground(1, 0));
        due(0, x.ground(3, 0));
        x.day();
        due(0, x.ground(0, 0));
        due(0, x.ground(3, 0));
        due(18, x.grass());
        // Eaten where it goes, not where it was.
        x = Texts.of("gorge 2 by 2;green 3;flock a bride at 0 0 size 2;pull home;");
        x.day();
        due(3, x.ground(0, 0));
        due(1, x.ground(1, 0));
        x.day();
        due(1, x.ground(3, 0));
        x.day();
        due(0, x.ground(3, 0));
    }

    private static void salt() {
        says(17, "Each salt has a day less.");
        GoatMatches x = Texts.of(A + "pull 0;");
        x.salt(0);
        x.salt(15);
        x.day();
        x.salt(7);
        for (int n = 1; n < 11; n++) {
            due(Math.max(0, 9 - n), x.ground(0, 1));
            due(Math.max(0, 9 - n), x.ground(15, 1));
            due(Math.max(0, 10 - n), x.ground(7, 1));
            due(0, x.ground(1, 1));
            x.day();
        }
        due(0, x.ground(7, 1));
    }

    private static void evening() {
        says(17, "EVENING: two FLOCKS of unlike sides, without a feud, in one CELL are MIXED once more");
        GoatMatches x = Texts.of(A + B + C + D + "flock e groom at 1 0 size 1;flock f bride at 1 1 size 1;feud c d;pull 0;");
        x.pen(1);
        x.pen(4);
        days(x, 2);
        int[][] want = {{-1, 2, -1, 2, 0, -1}, {2, -1, 2, -1, -1, 0}, {-1, 2, -1, -1, 0, -1}, {2, -1, -1, -1, -1, 0},
            {0, -1, 0, -1, -1, 0}, {-1, 0, -1, 0, 0, -1}};
        for (int f = 0; f < 6; f++) {
            for (int o = 0; o < 6; o++) {
                due(want[f][o], x.mixed(f, o));
            }
        }
        // Those who are matched, with one another or with others, mix on.
        x = Texts.of(A + B + D + "pull 0;evenings 1;");
        days(x, 3);
        due(1, x.flock(0, 4));
        due(3, x.mixed(0, 1));
        due(3, x.mixed(0, 2));
    }

    private static void match() {
        says(17, "; two by two (by the first FLOCK, then the second one)");
        GoatMatches x = Texts.of(B + A + D + C + "pull 0;evenings 1;");
        due(4, x.day());
        due(1, x.flock(0, 4));
        due(3, x.flock(2, 4));
        x = Texts.of(A + B + C + D + "pull 0;evenings 1;feud a b;");
        due(4, x.day());
        due(3, x.flock(0, 4));
        due(2, x.flock(1, 4));
        x = Texts.of(A + C + B + D + "pull 0;evenings 1;feud a b;feud c d;");
        due(4, x.day());
        due(3, x.flock(0, 4));
        due(2, x.flock(1, 4));
        x = Texts.of(A + C + B + "pull 0;evenings 1;");
        due(2, x.day());
        due(2, x.flock(0, 4));
        due(-1, x.flock(1, 4));
        x = Texts.of(A + B + D + "pull 0;evenings 1;");
        due(2, x.day());
        due(1, x.flock(0, 4));
        due(-1, x.flock(2, 4));
        says(17, ", those that were MIXED as often as evenings tells, at least, none of both MATCHED, are MATCHED.");
        for (int evenings = 1; evenings <= 20; evenings++) {
            x = Texts.of(A + B + "pull 0;evenings " + evenings + ";");
            for (int n = 1; n < evenings; n++) {
                due(0, x.day());
            }
            due(2, x.day());
            due(0, x.day());
            due(2, x.matched());
        }
        // d is MIXED oftener than is told with a, who was MATCHED, and is not there on the evening of their match.
        x = Texts.of(A + B + D + "pull 0;evenings 2;");
        due(0, x.day());
        due(2, x.day());
        due(0, x.day());
        due(1, x.breaks(0));
        x.drive(2, 1);
        x.pen(2);
        due(2, x.day());
        due(2, x.flock(0, 4));
        due(3, x.mixed(0, 2));
        due(1, x.mixed(0, 1));
    }

    private static void seed() {
        says(17, "The SEED (draw, at first) becomes its 137-fold and 71 more, modulo 1,000");
        GoatMatches x = Texts.of("draw 999;");
        due(999, x.about(6));
        int[] seeds = {934, 29, 44, 99, 634, 929};
        for (int seed : seeds) {
            x.day();
            due(seed, x.about(6));
        }
        x = Texts.of("draw 0;");
        x.day();
        due(71, x.about(6));
        x.day();
        due(798, x.about(6));
        says(17, "; if its rest by 100 is less than rain tells, each CELL has so much more grass as is told (9 at most).");
        for (int odds = 0; odds <= 100; odds++) {
            x = Texts.of("gorge 2 by 2;green 1;draw 29;rain " + odds + " of 2;");
            x.day();
            due(odds > 44 ? 12 : 4, x.grass());
        }
        for (int rain = 1; rain <= 9; rain++) {
            x = Texts.of("gorge 2 by 3;green 0;grass 1 2 7;grass 0 2 9;rain 100 of " + rain + ";");
            x.day();
            due(rain, x.ground(0, 0));
            due(Math.min(9, 7 + rain), x.ground(5, 0));
            due(9, x.ground(4, 0));
            due(4 * rain + 9 + Math.min(9, 7 + rain), x.grass());
        }
        // The SEED of before tells nothing: its rest is 0, then 71.
        x = Texts.of("gorge 2 by 2;green 0;draw 0;rain 71 of 2;");
        x.day();
        due(0, x.grass());
        says(17, "The DAY goes up by 1.");
        x = Texts.of(TWO);
        for (int day = 0; day < 5; day++) {
            due(day, x.about(5));
            x.day();
        }
        due(5, x.about(5));
    }

    private static void day() {
        says(17, "A DAY: how many FLOCKS are MATCHED on it");
        GoatMatches x = Texts.of(A + B + C + D + "flock e bride at 0 0 size 1;flock f groom at 0 0 size 1;pull 0;evenings 2;");
        due(0, x.day());
        due(6, x.day());
        due(0, x.day());
        x.breaks(0);
        due(0, x.day());
        due(2, x.day());
        due(0, new GoatMatches().day());
        says(17, "; NONE, doing nothing, behind 999 of them.");
        // More calls than are promised of one object; but the document names this edge.
        x = Texts.of(TWO);
        for (int n = 0; n < 999; n++) {
            due(true, x.day() >= 0);
        }
        due(999, x.about(5));
        x.pen(0);
        x.undo();
        String before = all(x);
        due(-1, x.day());
        same(before, all(x));
        due(999, x.about(5));
        due(true, x.redo());
        x.undo();
        due(true, x.undo());
        due(998, x.about(5));
        due(0, x.day());
        due(-1, x.day());
        says(17, "; a DAY");
        x = Texts.of(TWO);
        x.day();
        due(1, x.about(8));
        says(17, "(An ACT.)");
        due(true, x.undo());
        due(0, x.about(5));
        due(1, x.about(9));
    }
}
