import java.util.ArrayList;
import java.util.List;
import java.util.Random;

/** Feeding of texts, and texts by chance (from a told seed). */
final class Texts {
    private Texts() { }

    /** The text's bytes as feed() takes them, five numbers a row. */
    static List<int[]> rows(String text) {
        List<int[]> rows = new ArrayList<>();
        for (int at = 0; at < text.length(); at += 20) {
            int[] row = new int[5];
            for (int i = 0; i < 20; i++) {
                int sign = at + i < text.length() ? text.charAt(at + i) & 255 : 0;
                row[i / 4] |= sign << 24 - i % 4 * 8;
            }
            rows.add(row);
        }
        return rows;
    }

    /** Puts the text on the TAPE, in place of what was there. */
    static void tape(GoatMatches x, String text) {
        x.end(0);
        for (int[] r : rows(text)) {
            x.feed(r[0], r[1], r[2], r[3], r[4]);
        }
        x.end(text.length());
    }

    static GoatMatches of(String text) {
        GoatMatches x = new GoatMatches();
        tape(x, text);
        if (x.gorge() < 0) {
            throw new IllegalStateException("fault " + x.fault(0) + " at " + x.fault(1) + ": " + text);
        }
        return x;
    }

    static String formula(Random r, int depth) {
        String[] words = {"grass", "salt", "others", "home", "here", "day", "grass", "salt"};
        int kind = r.nextInt(depth > 3 ? 2 : 10);
        switch (kind) {
            case 0:
                return "" + r.nextInt(r.nextInt(4) == 0 ? 9999 : 10);
            case 1:
            case 2:
            case 3:
                return words[r.nextInt(words.length)];
            case 4:
                return "(" + formula(r, depth + 1) + ")";
            case 5:
                return (r.nextInt(3) == 0 ? "" : "(") + "not " + formula(r, depth + 1) + (r.nextInt(3) == 0 ? "" : ")");
            default:
                String[] signs = {"+", "-", "*", "/", "%", "<", ">", "=", " and ", " or ", "+", "-", "*"};
                return formula(r, depth + 1) + signs[r.nextInt(signs.length)] + formula(r, depth + 1);
        }
    }

    private static String number(Random r, int below) {
        return "" + (r.nextInt(60) == 0 ? r.nextInt(12000) : r.nextInt(below));
    }

    static String gorge(Random r) {
        StringBuilder s = new StringBuilder();
        int columns = 4;
        int rows = 4;
        if (r.nextInt(8) > 0) {
            columns = 2 + r.nextInt(r.nextInt(4) == 0 ? 4 : 2);
            rows = 2 + r.nextInt(r.nextInt(4) == 0 ? 4 : 2);
            s.append("gorge ").append(columns).append(" by ").append(rows).append(";\n");
        }
        if (r.nextInt(2) == 0) {
            s.append("green ").append(number(r, 10)).append(";");
        }
        for (int i = r.nextInt(4); i > 0; i--) {
            s.append("grass ").append(number(r, columns)).append(' ').append(number(r, rows)).append(' ')
                    .append(number(r, 10)).append(";");
        }
        int flocks = r.nextInt(20) == 0 ? r.nextInt(2) : 2 + r.nextInt(5);
        String[] names = {"a", "bb", "ccc", "dddddddd", "e", "one", "z"};
        for (int i = 0; i < flocks; i++) {
            s.append("flock ").append(names[i]).append(r.nextBoolean() ? " bride" : " groom").append(" at ")
                    .append(number(r, columns)).append(' ').append(number(r, rows)).append(" size ")
                    .append(1 + r.nextInt(r.nextInt(3) == 0 ? 9 : 3)).append(";\n");
        }
        for (int i = 0; i < flocks; i++) {
            for (int j = 0; j < flocks; j++) {
                if (r.nextInt(10) < 4 && i != j) {
                    s.append("wants ").append(names[i]).append(' ').append(names[j]).append(' ')
                            .append(r.nextInt(r.nextBoolean() ? 5 : 100)).append(";");
                }
            }
        }
        for (int i = r.nextInt(10) == 0 ? r.nextInt(5) : 0; i > 0; i--) {
            s.append("feud ").append(names[r.nextInt(7)]).append(' ').append(names[r.nextInt(7)]).append(";");
        }
        if (r.nextInt(3) > 0) {
            s.append("pull ").append(formula(r, 0)).append(";");
        }
        if (r.nextInt(2) > 0) {
            s.append("rain ").append(number(r, 101)).append(" of ").append(1 + r.nextInt(9)).append(";");
        }
        if (r.nextInt(3) > 0) {
            s.append("evenings ").append(1 + r.nextInt(5)).append(";");
        }
        if (r.nextInt(3) > 0) {
            s.append("draw ").append(number(r, 1000)).append(";");
        }
        return s.toString();
    }

    /** A text without wants of one side told wrongly: what gorge() makes may still have a fault. */
    static String sound(Random r) {
        while (true) {
            String text = gorge(r);
            GoatMatches x = new GoatMatches();
            if (text.length() <= 1600) {
                tape(x, text);
                if (x.gorge() >= 0) {
                    return text;
                }
            }
        }
    }

    static String broken(Random r, String text) {
        StringBuilder s = new StringBuilder(text);
        String signs = ";()<>=+-*/% \n0123456789abcdefghorst$A\u00e9";
        String[] words = {" not ", " or ", " grass ", " bride ", ";feud a bb;", ";wants a bb 3;", " 12345 ", "9a",
            " abcdefghi ", ";grass 0 0 1;", ";flock q groom at 0 0 size 1;", ";pull 1;", ";gorge 2 by 2;", "((((((("};
        for (int i = 1 + r.nextInt(2); i > 0; i--) {
            int at = r.nextInt(s.length() + 1);
            switch (r.nextInt(5)) {
                case 0:
                    s.insert(at, signs.charAt(r.nextInt(signs.length())));
                    break;
                case 1:
                    s.insert(at, words[r.nextInt(words.length)]);
                    break;
                case 2:
                    s.setLength(at);
                    break;
                case 3:
                    s.delete(at, Math.min(s.length(), at + 1 + r.nextInt(6)));
                    break;
                default:
                    if (at < s.length()) {
                        s.setCharAt(at, signs.charAt(r.nextInt(signs.length())));
                    }
                    break;
            }
        }
        return s.length() > 1600 ? s.substring(0, 1600) : s.toString();
    }
}
