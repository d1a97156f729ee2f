/** The edges of SEEN, of the TIME, of LEDGES and of ASK; promises 34 to 38. */
final class EdgesOfSights extends Edges {
    private static final String A = "flock a bride at 0 0 size 1;";

    private EdgesOfSights() { }

    static void run() {
        told();
        seen();
        untell();
        later();
        ledges();
        ledgesOfDays();
        asFrom();
        ask();
        askRefused();
    }

    private static void told() {
        says(34, "SEEN, 30 at most, is TOLD at a TIME (0 at first, goes on), UNTOLD at a later one or the same");
        GoatMatches x = Texts.of(TWO);
        due(0, x.about(11));
        for (int i = 0; i < 30; i++) {
            due(i, x.seen(i % 10, i % 2, i % 6, i % 3 == 0));
        }
        due(30, x.about(10));
        String before = all(x);
        due(-1, x.seen(0, 0, 0, true));
        same(before, all(x));
        x.untell(29);
        due(-1, x.seen(0, 0, 0, true));
        due(30, x.about(10));
        x = Texts.of(TWO);
        x.seen(0, 0, 5, true);
        x.untell(0);
        due(63, x.ledges(0));
        x.later(4);
        x.seen(0, 0, 5, true);
        x.later(2);
        x.untell(1);
        due(63, x.ledges(3));
        due(0, x.ledges(4));
        due(0, x.ledges(5));
        due(63, x.ledges(6));
    }

    private static void seen() {
        says(34, "A SEEN: its number");
        GoatMatches x = Texts.of(TWO);
        due(0, x.seen(0, 0, 0, true));
        due(1, x.seen(9, 1, 5, false));
        x.untell(0);
        due(2, x.seen(9, 1, 5, false));
        says(34, "; NONE, doing nothing, if one can't be, or there are 30.");
        String before = all(x);
        for (int odd : new int[] {-1, 10, LEAST, MOST}) {
            due(-1, x.seen(odd, 0, 0, true));
        }
        for (int odd : new int[] {-1, 2, 6, LEAST, MOST}) {
            due(-1, x.seen(0, odd, 0, true));
        }
        for (int odd : new int[] {-1, 6, 25, LEAST, MOST}) {
            due(-1, x.seen(0, 0, odd, false));
        }
        same(before, all(x));
        for (int i = 3; i < 30; i++) {
            due(i, x.seen(0, 0, 0, true));
        }
        before = all(x);
        due(-1, x.seen(0, 0, 5, true));
        same(before, all(x));
        due(-1, new GoatMatches().seen(0, 0, 0, true));
    }

    private static void untell() {
        says(35, "It is UNTOLD: true; false if it is so already, or there is none such.");
        GoatMatches x = Texts.of(TWO);
        due(false, x.untell(0));
        x.seen(0, 0, 5, true);
        x.seen(0, 0, 5, true);
        for (int odd : new int[] {-1, 2, 30, LEAST, MOST}) {
            due(false, x.untell(odd));
        }
        due(0, x.ledges(0));
        due(true, x.untell(1));
        due(0, x.ledges(0));
        due(false, x.untell(1));
        due(true, x.untell(0));
        due(63, x.ledges(0));
        due(false, x.untell(0));
        // A second time, later, changes nothing.
        x.seen(0, 0, 5, true);
        x.later(1);
        x.untell(2);
        x.later(1);
        due(false, x.untell(2));
        due(0, x.ledges(0));
        due(63, x.ledges(1));
    }

    private static void later() {
        says(36, "So much later (0 .. 1000): the TIME");
        GoatMatches x = new GoatMatches();
        due(0, x.later(0));
        due(1, x.later(1));
        due(1001, x.later(1000));
        due(1001, x.later(0));
        says(36, "; NONE, doing nothing, for another number, or if it would be above 100,000.");
        for (int odd : new int[] {-1, 1001, LEAST, MOST}) {
            due(-1, x.later(odd));
            due(1001, x.about(11));
        }
        for (int n = 2; n <= 99; n++) {
            due(1000 * n + 1, x.later(1000));
        }
        due(-1, x.later(1000));
        due(99001, x.about(11));
        due(100000, x.later(999));
        due(-1, x.later(1));
        due(100000, x.later(0));
        due(100000, x.about(11));
    }

    private static void ledges() {
        says(37, "LEDGES: CELLS without salt such that, had salt been laid there now, all that count would be so.");
        GoatMatches x = Texts.of("gorge 5 by 5;flock a bride at 2 2 size 1;");
        due((1 << 25) - 1, x.ledges(0));
        x.salt(0);
        x.salt(24);
        due((1 << 24) - 2, x.ledges(0));
        x.undo();
        x.undo();
        for (int cell : new int[] {12, 7, 11, 13, 17}) {
            x = Texts.of("gorge 5 by 5;flock a bride at 2 2 size 1;");
            x.seen(1, 0, cell, true);
            due(cell == 12 ? (1 << 25) - 1 - (1 << 7) - (1 << 11) - (1 << 13) - (1 << 17) : 1 << cell, x.ledges(0));
            x.seen(1, 0, 12, false);
            due(cell == 12 ? 0 : 1 << cell, x.ledges(0));
        }
        for (int cell : new int[] {1, 5}) {
            x = Texts.of(TWO);
            x.seen(1, 1, cell, true);
            due(1 << cell, x.ledges(0));
            x.seen(1, 0, cell, true);
            due(cell == 1 ? 2 : 0, x.ledges(0));
        }
        // Where salt is for but a day there is none to be laid; where it has gone there is.
        x = Texts.of(TWO);
        x.salt(4);
        days(x, 8);
        due(63 - 16, x.ledges(0));
        x.day();
        due(63, x.ledges(0));
        for (int c = 0; c < 6; c++) {
            x.salt(c);
        }
        due(0, x.ledges(0));
        says(37, "LEDGES, as bits.");
        x = Texts.of(TWO);
        x.seen(1, 0, 3, true);
        due(8, x.ledges(0));
        due(65535, new GoatMatches().ledges(0));
        due(15, Texts.of("gorge 2 by 2;").ledges(0));
    }

    private static void ledgesOfDays() {
        says(37, ": that behind so many DAYS (0 .. 9) from now a FLOCK is in a CELL, or is not (as if told ahead).");
        // a goes outward over two CELLS, if they have salt: where one lies already, the other was laid.
        GoatMatches x = Texts.of("gorge 5 by 2;" + A + "pull salt*home;");
        x.seen(0, 0, 0, true);
        due(1023, x.ledges(0));
        x.salt(2);
        x.seen(1, 0, 1, true);
        x.seen(2, 0, 2, true);
        x.seen(9, 0, 2, true);
        due(2, x.ledges(0));
        x.seen(9, 0, 2, false);
        due(0, x.ledges(0));
        x = Texts.of("gorge 5 by 2;" + A + "pull salt*home;");
        x.seen(0, 0, 0, false);
        due(0, x.ledges(0));
        // Only the ninth day tells: the salt of now still draws then, if by 1.
        x = Texts.of("gorge 2 by 2;" + A + "pull (day=8)*salt;");
        x.seen(8, 0, 0, true);
        due(15, x.ledges(0));
        x.seen(9, 0, 1, true);
        due(2, x.ledges(0));
        x.seen(9, 0, 0, true);
        due(0, x.ledges(0));
        x = Texts.of("gorge 2 by 2;" + A + "pull (day=8)*salt;");
        x.seen(9, 0, 1, true);
        x.pen(0);
        due(0, x.ledges(0));
    }

    private static void asFrom() {
        says(37, "As known at k that counts that was TOLD at k or before, not UNTOLD at k or before.");
        GoatMatches x = Texts.of(TWO);
        x.later(10);
        x.seen(1, 0, 1, true);
        x.later(5);
        x.seen(1, 0, 1, false);
        x.later(5);
        x.untell(0);
        x.later(5);
        x.untell(1);
        int[] from = {LEAST, -1, 0, 9, 10, 14, 15, 19, 20, 24, 25, 100000, MOST};
        int[] want = {63, 63, 63, 63, 2, 2, 0, 0, 61, 61, 63, 63, 63};
        for (int i = 0; i < from.length; i++) {
            due(want[i], x.ledges(from[i]));
            due(want[i] == 0 ? -1 : want[i] == 2 ? 1 : want[i] == 61 ? 5 : 6, x.ask(0, 1, from[i]));
        }
    }

    private static void ask() {
        says(38, "ASK for n DAYS: the FLOCK of which to see the CELL behind these would leave the fewest of LEDGES at the most");
        GoatMatches x = Texts.of("gorge 5 by 5;flock a bride at 0 0 size 1;flock b groom at 2 2 size 1;"
                + "flock c groom at 2 0 size 1;");
        // a is drawn by 2 CELLS, b by 4, c by 3; by all others they stay.
        due(1, x.ask(1, 0, 0));
        due(21, x.ask(1, 1, 0));
        x.pen(1);
        due(2, x.ask(1, 0, 0));
        due(22, x.ask(1, 1, 0));
        x.pen(2);
        due(0, x.ask(1, 0, 0));
        due(23, x.ask(1, 1, 0));
        x.seen(1, 0, 1, true);
        due(1, x.ask(1, 1, 0));
        x = Texts.of("gorge 5 by 5;flock a bride at 0 0 size 1;flock b groom at 4 4 size 1;flock c groom at 4 0 size 1;"
                + "flock d groom at 0 4 size 1;flock e groom at 3 3 size 1;flock f groom at 2 2 size 1;");
        due(4, x.ask(1, 0, 0));
        x.pen(4);
        due(5, x.ask(1, 0, 0));
        due(21, x.ask(1, 1, 0));
        x.pen(5);
        due(0, x.ask(1, 0, 0));
        x = Texts.of("gorge 2 by 2;" + A + "flock b groom at 1 1 size 1;pull (day=8)*salt;");
        due(4, x.ask(8, 1, 0));
        due(2, x.ask(9, 1, 0));
        x.salt(3);
        x.salt(0);
        x.salt(1);
        due(1, x.ask(0, 1, 0));
        says(38, "; of like ones the first.");
        x = Texts.of("gorge 3 by 3;flock a bride at 1 1 size 1;flock b groom at 1 1 size 1;flock c groom at 1 1 size 1;");
        due(0, x.ask(1, 0, 0));
        x.pen(0);
        due(1, x.ask(1, 0, 0));
        due(0, x.ask(0, 0, 0));
        due(9, x.ask(0, 1, 0));
    }

    private static void askRefused() {
        says(38, "ASK (n 0 .. 9) what 0: the FLOCK, 1: how many are left at the most");
        GoatMatches x = Texts.of(TWO);
        due(0, x.ask(0, 0, 0));
        due(6, x.ask(0, 1, 0));
        due(4, x.ask(1, 1, 0));
        due(0, x.ask(1, 0, 0));
        due(true, x.ask(9, 1, 0) > 0);
        says(38, "; NONE if there are no LEDGES, no FLOCKS, or one can't be.");
        for (int odd : new int[] {-1, 10, LEAST, MOST}) {
            due(-1, x.ask(odd, 0, 0));
        }
        for (int odd : new int[] {-1, 2, LEAST, MOST}) {
            due(-1, x.ask(0, odd, 0));
        }
        due(-1, new GoatMatches().ask(0, 0, 0));
        due(-1, new GoatMatches().ask(0, 1, 0));
        x.seen(0, 0, 0, false);
        due(-1, x.ask(0, 0, 0));
        due(-1, x.ask(0, 1, 0));
        due(0, x.ask(0, 0, -1));
        due(6, x.ask(0, 1, -1));
        x = Texts.of("gorge 2 by 2;" + A);
        for (int c = 0; c < 4; c++) {
            due(true, x.ask(0, 0, 0) == 0);
            x.salt(c);
        }
        due(-1, x.ask(0, 0, 0));
    }
}
