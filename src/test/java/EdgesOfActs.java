/** The edges of the ACTS, of what takes them back, of the BOXES and of about(); promises 13 to 19 and 39 to 41. */
final class EdgesOfActs extends Edges {
    private static final String A = "flock a bride at 0 0 size 1;";
    private static final String B = "flock b groom at 0 0 size 1;";
    private static final String C = "flock c bride at 0 0 size 1;";
    private static final String D = "flock d groom at 0 0 size 1;";

    private EdgesOfActs() { }

    static void run() {
        salt();
        pen();
        drive();
        breaks();
        undo();
        redo();
        kept();
        image();
        back();
        about();
        aboutBooks();
    }

    /** TWO behind three days (its flocks are matched, in cell 4), with one act that can be done again. */
    private static GoatMatches busy() {
        GoatMatches x = Texts.of(TWO);
        days(x, 3);
        x.salt(2);
        x.undo();
        return x;
    }

    /** That an act is kept, and that what could be done again can't be any more; it is taken back and done again. */
    private static void isAct(GoatMatches x, String before, int acts) {
        due(acts, x.about(8));
        due(0, x.about(9));
        due(false, x.redo());
        due(true, x.undo());
        same(before, all(x));
        due(true, x.redo());
        due(acts, x.about(8));
    }

    private static void salt() {
        says(13, "ACTS: salt is laid on a CELL (nine days of it)");
        GoatMatches x = Texts.of(TWO);
        x.salt(4);
        due(9, x.ground(4, 1));
        due(0, x.ground(3, 1));
        x.day();
        x.salt(4);
        due(9, x.ground(4, 1));
        says(13, "Salt is laid on a CELL: how many days of it were there");
        x = Texts.of(TWO);
        due(0, x.salt(0));
        due(0, x.salt(5));
        due(9, x.salt(5));
        for (int n = 1; n <= 10; n++) {
            x.day();
            due(Math.max(0, 9 - n), x.ground(5, 1));
        }
        due(0, x.salt(5));
        days(x, 3);
        due(6, x.salt(5));
        says(13, "; NONE, doing nothing, if there is none such.");
        x = busy();
        String before = all(x);
        for (int odd : new int[] {-1, 6, 25, LEAST, MOST}) {
            due(-1, x.salt(odd));
        }
        same(before, all(x));
        due(true, x.redo());
        says(13, "(An ACT.)");
        x = busy();
        before = all(x);
        x.salt(1);
        isAct(x, before, 4);
        due(9, x.ground(1, 1));
    }

    private static void pen() {
        says(14, "; a FLOCK is penned, or is not any more");
        GoatMatches x = Texts.of(TWO);
        x.pen(0);
        due(1, x.flock(0, 3));
        due(0, x.flock(1, 3));
        x.pen(1);
        due(3, x.about(7));
        x.pen(0);
        due(0, x.flock(0, 3));
        due(2, x.about(7));
        says(14, "A FLOCK is penned, or is not any more: 1 if it is then, else 0");
        for (int n = 1; n < 6; n++) {
            due(n % 2, x.pen(0));
        }
        due(0, x.pen(1));
        due(1, x.pen(1));
        says(14, "; NONE, doing nothing, if there is none such.");
        x = busy();
        String before = all(x);
        for (int odd : new int[] {-1, 2, 6, 32, LEAST, MOST}) {
            due(-1, x.pen(odd));
        }
        same(before, all(x));
        due(true, x.redo());
        due(-1, new GoatMatches().pen(0));
        says(14, "(An ACT.)");
        x = busy();
        before = all(x);
        x.pen(1);
        isAct(x, before, 4);
        due(2, x.about(7));
    }

    private static void drive() {
        says(15, "; it is driven to a CELL beside its own");
        for (int columns = 2; columns <= 5; columns++) {
            for (int rows = 2; rows <= 5; rows++) {
                for (int own = 0; own < columns * rows; own++) {
                    GoatMatches x = Texts.of("gorge " + columns + " by " + rows + ";flock a bride at " + own % columns
                            + " " + own / columns + " size 1;");
                    for (int c = 0; c < columns * rows; c++) {
                        int apart = Math.abs(own % columns - c % columns) + Math.abs(own / columns - c / columns);
                        due(apart == 1 ? own : -1, x.drive(0, c));
                        due(apart == 1 ? c : own, x.flock(0, 0));
                        due(apart == 1 ? 1 : 0, x.about(8));
                        x.undo();
                    }
                }
            }
        }
        says(15, "A FLOCK is driven to a CELL beside its own: where it was");
        GoatMatches x = Texts.of(TWO);
        due(2, x.drive(1, 1));
        due(1, x.drive(1, 0));
        due(0, x.drive(1, 3));
        due(3, x.flock(1, 0));
        due(0, x.flock(0, 0));
        due(2, x.flock(1, 5));
        says(15, "; NONE, doing nothing, if it is not beside it, it is penned, or one can't be.");
        x = busy();
        x.pen(0);
        x.salt(5);
        x.undo();
        String before = all(x);
        due(4, x.flock(1, 0));
        for (int cell : new int[] {0, 2, 4, -1, 6, 7, 25, LEAST, MOST}) {
            due(-1, x.drive(1, cell));
        }
        for (int cell : new int[] {1, 3, 5}) {
            due(-1, x.drive(0, cell));
        }
        for (int odd : new int[] {-1, 2, 6, LEAST, MOST}) {
            due(-1, x.drive(odd, 1));
            due(-1, x.drive(odd, odd));
        }
        same(before, all(x));
        due(true, x.redo());
        x.pen(0);
        due(4, x.drive(0, 5));
        says(15, "(An ACT.)");
        x = busy();
        before = all(x);
        x.drive(1, 3);
        isAct(x, before, 4);
        due(3, x.flock(1, 0));
    }

    private static void breaks() {
        says(16, "; a match is broken (both were MIXED never then).");
        GoatMatches x = Texts.of(A + B + C + D + "pull 0;evenings 2;");
        days(x, 3);
        due(3, x.breaks(2));
        due(-1, x.flock(2, 4));
        due(-1, x.flock(3, 4));
        due(0, x.mixed(2, 3));
        due(0, x.mixed(3, 2));
        due(3, x.mixed(2, 1));
        due(3, x.mixed(0, 3));
        due(3, x.mixed(0, 1));
        due(1, x.flock(0, 4));
        due(2, x.matched());
        x.day();
        due(1, x.mixed(2, 3));
        due(2, x.matched());
        due(2, x.day());
        says(16, "A match is broken: with whom it was");
        due(2, x.breaks(3));
        due(1, x.breaks(0));
        due(0, x.matched());
        says(16, "; NONE, doing nothing, if it is not MATCHED, or there is none such.");
        x.salt(0);
        x.undo();
        String before = all(x);
        for (int odd : new int[] {0, 1, 2, 3, -1, 4, 6, LEAST, MOST}) {
            due(-1, x.breaks(odd));
        }
        same(before, all(x));
        due(true, x.redo());
        due(-1, new GoatMatches().breaks(0));
        says(16, "(An ACT.)");
        x = busy();
        before = all(x);
        due(1, x.breaks(0));
        isAct(x, before, 4);
        due(0, x.matched());
        due(0, x.mixed(0, 1));
    }

    private static void undo() {
        says(18, "UNDO takes back the latest ACT that was not");
        GoatMatches x = Texts.of(TWO);
        String[] states = new String[7];
        for (int i = 0; i < 7; i++) {
            states[i] = without89(all(x));
            act(x, i);
        }
        for (int i = 6; i >= 0; i--) {
            due(true, x.undo());
            same(states[i], without89(all(x)));
            due(i, x.about(8));
            due(7 - i, x.about(9));
        }
        says(18, "UNDO: true; false if there is none.");
        String before = all(x);
        due(false, x.undo());
        same(before, all(x));
        due(false, new GoatMatches().undo());
        x = new GoatMatches();
        x.day();
        due(true, x.undo());
        due(false, x.undo());
    }

    /** Of TWO three days, salt, a pen, a drive and a broken match. */
    private static void act(GoatMatches x, int i) {
        if (i < 3) {
            x.day();
        } else if (i == 3) {
            x.salt(3);
        } else if (i == 4) {
            x.pen(1);
        } else if (i == 5) {
            x.drive(0, 1);
        } else {
            due(0, x.breaks(1));
        }
    }

    private static String without89(String all) {
        return all.replaceFirst("^(([^,]*,){8})[^,]*,[^,]*,", "$1");
    }

    private static void redo() {
        says(18, ", REDO does that again which was taken back last");
        GoatMatches x = Texts.of(TWO);
        String[] states = new String[8];
        for (int i = 0; i < 7; i++) {
            states[i] = without89(all(x));
            act(x, i);
        }
        states[7] = without89(all(x));
        for (int i = 0; i < 7; i++) {
            x.undo();
        }
        for (int i = 1; i <= 7; i++) {
            due(true, x.redo());
            same(states[i], without89(all(x)));
            due(i, x.about(8));
            due(7 - i, x.about(9));
        }
        x.undo();
        x.undo();
        x.redo();
        x.undo();
        x.redo();
        same(states[6], without89(all(x)));
        says(19, "(till another ACT)");
        for (int i = 0; i < 7; i++) {
            x = Texts.of(TWO);
            days(x, 3);
            x.salt(0);
            x.salt(1);
            x.undo();
            x.undo();
            due(2, x.about(9));
            act(x, i);
            due(0, x.about(9));
            due(false, x.redo());
            due(4, x.about(8));
        }
        // What is no ACT, or is refused, leaves it.
        x = busy();
        x.image(0);
        x.seen(1, 0, 0, true);
        x.untell(0);
        x.later(3);
        x.wells();
        x.will(0, 9);
        x.trick(0, 1, 1, 1, 0);
        x.feed(0, 0, 0, 0, 0);
        x.gorge();
        x.salt(-1);
        x.pen(2);
        x.drive(0, 0);
        x.breaks(-1);
        due(1, x.about(9));
        due(true, x.redo());
        due(9, x.ground(2, 1));
        says(19, "REDO: true; false if there is none.");
        String before = all(x);
        due(false, x.redo());
        same(before, all(x));
        due(false, new GoatMatches().redo());
        x = new GoatMatches();
        x.day();
        due(false, x.redo());
        due(true, x.undo());
        due(true, x.redo());
        due(false, x.redo());
        due(1, x.about(5));
    }

    private static void kept() {
        says(18, "; 40 at most are kept, the oldest go.");
        GoatMatches x = Texts.of(TWO);
        for (int n = 1; n <= 43; n++) {
            x.day();
            due(Math.min(40, n), x.about(8));
        }
        for (int n = 42; n >= 3; n--) {
            due(true, x.undo());
            due(n, x.about(5));
        }
        due(false, x.undo());
        due(3, x.about(5));
        due(0, x.about(8));
        due(40, x.about(9));
        for (int n = 4; n <= 43; n++) {
            due(true, x.redo());
            due(n, x.about(5));
        }
        due(false, x.redo());
        due(40, x.about(8));
        x.undo();
        x.undo();
        x.salt(0);
        due(39, x.about(8));
        x.salt(1);
        x.salt(2);
        due(40, x.about(8));
        for (int n = 0; n < 40; n++) {
            due(true, x.undo());
        }
        due(false, x.undo());
        due(4, x.about(5));
    }

    private static void image() {
        says(39, "Where FLOCKS are, who is penned, MIXED, MATCHED, grass, salt, the DAY, the SEED are kept in a BOX 0 .. 2");
        GoatMatches x = Texts.of(TWO);
        String[] kept = new String[3];
        for (int box = 0; box < 3; box++) {
            days(x, box == 1 ? 1 : 2);
            x.salt(box);
            if (box > 0) {
                x.pen(box % 2);
            }
            kept[box] = without89(all(x));
            x.image(box);
        }
        due(1, x.breaks(0));
        x.pen(0);
        days(x, 4);
        for (int box : new int[] {0, 2, 1, 1, 0}) {
            x.back(box);
            same(kept[box], without89(all(x)));
            days(x, 3);
            x.salt(5);
        }
        x.image(1);
        String later = without89(all(x));
        x.day();
        x.back(1);
        same(later, without89(all(x)));
        x.back(2);
        same(kept[2], without89(all(x)));
        says(39, ": the DAY");
        due(5, x.image(0));
        x.day();
        due(6, x.image(0));
        due(6, x.image(2));
        due(0, new GoatMatches().image(0));
        says(39, "; NONE if there is none such.");
        String before = all(x);
        for (int odd : new int[] {-1, 3, 32, LEAST, MOST}) {
            due(-1, x.image(odd));
        }
        same(before, all(x));
    }

    private static void back() {
        says(40, "All is as it was kept (no ACTS are kept then): the DAY");
        GoatMatches x = busy();
        x.image(1);
        x.day();
        x.seen(1, 0, 0, true);
        x.later(4);
        x.wells();
        due(4, x.about(8));
        due(3, x.back(1));
        due(0, x.about(8));
        due(0, x.about(9));
        due(false, x.undo());
        due(false, x.redo());
        due(3, x.about(5));
        due(1, x.about(10));
        due(4, x.about(11));
        due(2, x.about(14));
        due(2, x.matched());
        x.undo();
        x.day();
        x.undo();
        due(3, x.back(1));
        due(0, x.about(9));
        says(40, "; NONE, doing nothing, if nothing was.");
        x = busy();
        x.image(1);
        String before = all(x);
        for (int odd : new int[] {0, 2, -1, 3, 32, LEAST, MOST}) {
            due(-1, x.back(odd));
        }
        same(before, all(x));
        x.image(0);
        x.image(2);
        for (int odd : new int[] {-1, 3, 31, 32, 33, 34, LEAST, MOST}) {
            due(-1, x.back(odd));
        }
        same(before, all(x));
        due(true, x.redo());
        due(-1, new GoatMatches().back(0));
    }

    private static void about() {
        says(41, "What 0: FLOCKS, 1: COLUMNS, 2: ROWS, 3: feuds, 4: evenings, 5: the DAY, 6: the SEED, "
                + "7: who is penned, as bits");
        GoatMatches x = Texts.of("gorge 5 by 3;" + A + B + C + "feud a b;feud a c;evenings 7;draw 999;");
        int[] first = {3, 5, 3, 2, 7, 0, 999, 0};
        for (int what = 0; what < first.length; what++) {
            due(first[what], x.about(what));
        }
        x.pen(0);
        due(1, x.about(7));
        x.pen(2);
        due(5, x.about(7));
        x.day();
        due(1, x.about(5));
        due(934, x.about(6));
        x = Texts.of(A + B + C + D + "flock e bride at 0 0 size 1;flock f bride at 0 0 size 1;");
        for (int f = 0; f < 6; f++) {
            x.pen(f);
        }
        due(63, x.about(7));
        due(6, x.about(0));
        says(41, "NONE for another what.");
        for (int odd : new int[] {-1, 15, 16, LEAST, MOST}) {
            due(-1, x.about(odd));
        }
    }

    private static void aboutBooks() {
        says(41, ", 8: ACTS that can be undone, 9: redone");
        GoatMatches x = Texts.of(TWO);
        for (int n = 1; n <= 3; n++) {
            x.salt(0);
            due(n, x.about(8));
            due(0, x.about(9));
        }
        x.undo();
        due(2, x.about(8));
        due(1, x.about(9));
        x.undo();
        due(2, x.about(9));
        says(41, ", 10: SEEN, 11: the TIME");
        x.seen(0, 0, 0, true);
        x.seen(0, 0, 0, true);
        due(2, x.about(10));
        x.untell(0);
        due(2, x.about(10));
        due(0, x.about(11));
        x.later(9);
        due(9, x.about(11));
        says(41, ", 12: bytes on the TAPE");
        due(0, x.about(12));
        x.feed(0, 0, 0, 0, 0);
        due(20, x.about(12));
        x.end(3);
        due(3, x.about(12));
        x.gorge();
        due(0, x.about(12));
        says(41, ", 13: units");
        due(0, x.about(13));
        due(0, Texts.of("draw 1;").about(13));
        due(1, Texts.of("pull 1;").about(13));
        due(4, Texts.of("pull not (1 + 2) * grass;").about(13));
        due(8, Texts.of("pull (((((((1)))))));").about(13));
        says(41, ", 14: how many lie there.");
        due(0, x.about(14));
        x.wells();
        due(2, x.about(14));
        x.gorge();
        due(0, x.about(14));
        x.calm();
        due(0, x.about(14));
    }
}
