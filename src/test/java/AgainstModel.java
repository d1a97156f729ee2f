import java.util.Random;

/** Runs by chance (of told seeds), each call answered by GoatMatches and by Model. */
public final class AgainstModel {
    private static int wrong = 0;
    private static int calls = 0;
    // How many tricks answered NONE, 0, 1, 2, 3.
    private static final int[] TRICKS = new int[5];

    private AgainstModel() { }

    public static void main(String[] args) {
        int runs = args.length > 0 ? Integer.parseInt(args[0]) : 500;
        int from = args.length > 1 ? Integer.parseInt(args[1]) : 0;
        for (int run = from; run < from + runs && wrong < 5; run++) {
            run(run);
        }
        for (int run = from; run < from + 40 * runs && wrong < 5; run++) {
            faults(run);
        }
        for (int run = from; run < from + 2 * runs && wrong < 5; run++) {
            tricks(run);
        }
        for (int size = 0; size < TRICKS.length; size++) {
            if (TRICKS[size] == 0) {
                wrong++;
                System.out.println("no trick answered " + (size - 1));
            }
        }
        System.out.println("against the model: " + calls + " calls, " + wrong + " wrong");
        if (wrong > 0) {
            System.exit(1);
        }
    }

    private static boolean same(int run, String call, long got, long due) {
        calls++;
        if (got != due) {
            wrong++;
            System.out.println("run " + run + ": " + call + " answered " + got + ", due is " + due);
        }
        return got == due;
    }

    private static long bit(boolean is) {
        return is ? 1 : 0;
    }

    private static void tape(GoatMatches x, Model m, String text) {
        x.end(0);
        m.end(0);
        for (int[] r : Texts.rows(text)) {
            same(-1, "feed", x.feed(r[0], r[1], r[2], r[3], r[4]), m.feed(r[0], r[1], r[2], r[3], r[4]));
        }
        same(-1, "end", x.end(text.length()), m.end(text.length()));
    }

    private static void faults(int run) {
        Random r = new Random(run * 31L + 7);
        GoatMatches x = new GoatMatches();
        Model m = new Model();
        for (int i = 0; i < 2; i++) {
            String text = Texts.broken(r, Texts.gorge(r));
            tape(x, m, text);
            if (!same(run, "gorge of " + text, x.gorge(), m.gorge()) | !same(run, "fault(0) of " + text, x.fault(0), m.fault(0))
                    | !same(run, "fault(1) of " + text, x.fault(1), m.fault(1))) {
                return;
            }
            compare(run, x, m);
        }
    }

    /** Gorges in which salt leads flocks together, step by step. */
    private static void tricks(int run) {
        Random r = new Random(run * 17L + 3);
        String[] pulls = {"salt*(1-here)", "salt*(1-here)+grass", "salt*9-others", "(salt>0)*(day+1)*(1-here)", "salt%7+home",
            "grass+3*salt", "salt*home"};
        int columns = 3 + r.nextInt(2);
        StringBuilder text = new StringBuilder("gorge " + columns + " by 3;green " + r.nextInt(3) + ";");
        for (int i = 0; i < 2 + r.nextInt(3); i++) {
            text.append("flock ").append((char) ('a' + i)).append(i % 2 == 0 ? " bride" : " groom").append(" at ")
                    .append(r.nextInt(columns)).append(' ').append(r.nextInt(3)).append(" size 1;");
        }
        text.append("pull ").append(pulls[r.nextInt(pulls.length)]).append(";");
        GoatMatches x = new GoatMatches();
        Model m = new Model();
        tape(x, m, text.toString());
        same(run, "gorge of " + text, x.gorge(), m.gorge());
        for (int i = r.nextInt(5); i > 0; i--) {
            int cell = r.nextInt(m.cells());
            same(run, "salt " + cell, x.salt(cell), m.salt(cell));
        }
        for (int i = r.nextInt(2) * 8 + r.nextInt(2); i > 0; i--) {
            same(run, "day", x.day(), m.day());
        }
        for (int i = 0; i < 4; i++) {
            int evenings = 1 + r.nextInt(3);
            int days = evenings + r.nextInt(5);
            String call = "trick 0 1 " + evenings + " " + days + " of " + text;
            int size = x.trick(0, 1, evenings, days, 0);
            if (!same(run, call, size, m.trick(0, 1, evenings, days, 0))
                    || !same(run, call, x.trick(0, 1, evenings, days, 1), m.trick(0, 1, evenings, days, 1))) {
                return;
            }
            TRICKS[size + 1]++;
        }
    }

    private static void run(int run) {
        Random r = new Random(run);
        GoatMatches x = new GoatMatches();
        Model m = new Model();
        String text = Texts.sound(r);
        tape(x, m, text);
        same(run, "gorge", x.gorge(), m.gorge());
        for (int i = 0; i < 60; i++) {
            if (r.nextInt(60) == 0) {
                text = r.nextInt(3) == 0 ? Texts.broken(r, text) : Texts.sound(r);
                tape(x, m, text);
                same(run, "gorge", x.gorge(), m.gorge());
            }
            if (!call(run, r, x, m) || !compare(run, x, m)) {
                System.out.println(text);
                return;
            }
        }
    }

    private static int some(Random r, int from, int to) {
        if (r.nextInt(25) == 0) {
            int[] odd = {from - 1, to + 1, from - 2, Integer.MIN_VALUE, Integer.MAX_VALUE, to, from};
            return odd[r.nextInt(odd.length)];
        }
        return from + r.nextInt(Math.max(1, to - from + 1));
    }

    private static boolean call(int run, Random r, GoatMatches x, Model m) {
        int f = some(r, 0, m.flocks() - 1);
        int o = some(r, 0, m.flocks() - 1);
        int c = some(r, 0, m.cells() - 1);
        int what = some(r, 0, 1);
        int n = some(r, 0, 60);
        int days = some(r, 1, 20);
        int few = some(r, 0, 9);
        int box = some(r, 0, 2);
        int k = some(r, 0, m.time + 1);
        switch (r.nextInt(34)) {
            case 0:
                return same(run, "salt " + c, x.salt(c), m.salt(c));
            case 1:
                return same(run, "pen " + f, x.pen(f), m.pen(f));
            case 2:
                return same(run, "drive " + f + " " + c, x.drive(f, c), m.drive(f, c));
            case 3:
                return same(run, "breaks " + f, x.breaks(f), m.breaks(f));
            case 4:
            case 5:
            case 6:
            case 7:
                for (int i = r.nextInt(8); i > 0; i--) {
                    if (!same(run, "day", x.day(), m.day())) {
                        return false;
                    }
                }
                return true;
            case 8:
                for (int i = r.nextInt(r.nextInt(5) == 0 ? 45 : 4); i > 0; i--) {
                    if (!same(run, "undo", bit(x.undo()), bit(m.undo()))) {
                        return false;
                    }
                }
                return true;
            case 9:
                for (int i = r.nextInt(r.nextInt(5) == 0 ? 45 : 4); i > 0; i--) {
                    if (!same(run, "redo", bit(x.redo()), bit(m.redo()))) {
                        return false;
                    }
                }
                return true;
            case 10:
                return same(run, "will " + f + " " + n, x.will(f, n), m.will(f, n));
            case 11:
                return same(run, "mixes " + f + " " + o + " " + n, x.mixes(f, o, n), m.mixes(f, o, n));
            case 12:
                return same(run, "weds " + f, x.weds(f), m.weds(f));
            case 13:
            case 14:
                if (m.cells() > 12 && r.nextInt(10) > 0) {
                    return true;
                }
                int e = some(r, 1, r.nextBoolean() ? 3 : 9);
                return same(run, "trick " + f + " " + o + " " + e + " " + days + " " + what, x.trick(f, o, e, days, what),
                        m.trick(f, o, e, days, what));
            case 15:
            case 16:
                return same(run, "hold " + f + " " + o + " " + days + " " + what, x.hold(f, o, days, what),
                        m.hold(f, o, days, what));
            case 17:
            case 18:
                return same(run, "lead " + f + " " + o + " " + days + " " + what, x.lead(f, o, days, what),
                        m.lead(f, o, days, what));
            case 19:
                return same(run, "bachelors " + n, x.bachelors(n), m.bachelors(n));
            case 20:
                return same(run, "dear", x.dear(), m.dear());
            case 21:
                int law = some(r, 1, 20);
                return same(run, "law " + law, x.law(law), m.law(law));
            case 22:
                return same(run, "calm", x.calm(), m.calm());
            case 23:
                return same(run, "reach " + f, x.reach(f), m.reach(f));
            case 24:
                return same(run, "wells", x.wells(), m.wells());
            case 25:
                return same(run, "bare", x.bare(), m.bare());
            case 26:
                boolean is = r.nextInt(4) == 0;
                return same(run, "seen " + few + " " + f + " " + c, x.seen(few, f, c, is), m.seen(few, f, c, is));
            case 27:
                int seen = some(r, 0, m.seen.size());
                return same(run, "untell " + seen, bit(x.untell(seen)), bit(m.untell(seen)));
            case 28:
                int by = r.nextInt(5) == 0 ? some(r, 0, 1000) : r.nextInt(3);
                return same(run, "later " + by, x.later(by), m.later(by));
            case 29:
                return same(run, "ledges " + k, x.ledges(k), m.ledges(k));
            case 30:
            case 31:
                return same(run, "ask " + few + " " + what + " " + k, x.ask(few, what, k), m.ask(few, what, k));
            case 32:
                return same(run, "image " + box, x.image(box), m.image(box));
            default:
                return r.nextInt(3) > 0 || same(run, "back " + box, x.back(box), m.back(box));
        }
    }

    private static boolean compare(int run, GoatMatches x, Model m) {
        boolean fits = same(run, "grass", x.grass(), m.grass()) & same(run, "matched", x.matched(), m.matched());
        for (int i = -1; i < 17; i++) {
            fits &= same(run, "about " + i, x.about(i), m.about(i));
        }
        for (int i = -1; i < 8; i++) {
            fits &= same(run, "lies " + i, x.lies(i), m.lies(i));
        }
        for (int i = -1; i < 4; i++) {
            fits &= same(run, "fault " + i, x.fault(i), m.fault(i));
        }
        for (int f = -1; f <= m.flocks(); f++) {
            for (int i = -1; i < 7; i++) {
                fits &= same(run, "flock " + f + " " + i, x.flock(f, i), m.flock(f, i));
            }
            for (int o = -1; o <= m.flocks(); o++) {
                fits &= same(run, "mixed " + f + " " + o, x.mixed(f, o), m.mixed(f, o));
                fits &= same(run, "wants " + f + " " + o, x.wants(f, o), m.wants(f, o));
            }
            for (int c = -1; c <= m.cells(); c++) {
                fits &= same(run, "pull " + f + " " + c, x.pull(f, c), m.pull(f, c));
            }
        }
        for (int c = -1; c <= m.cells(); c++) {
            for (int i = -1; i < 4; i++) {
                fits &= same(run, "ground " + c + " " + i, x.ground(c, i), m.ground(c, i));
            }
        }
        return fits;
    }
}
