/** Each promise of the document by runs worked out by hand. */
public final class PromisesTest {
    private static final String TWO = "gorge 3 by 2;green 1;flock a bride at 0 0 size 2;flock b groom at 2 0 size 3;"
            + "evenings 2;draw 29;rain 5 of 4;";
    private static final String FOUR = "flock a bride at 0 0 size 1;flock c bride at 0 0 size 2;"
            + "flock b groom at 0 0 size 3;flock d groom at 0 0 size 4;";
    private static int wrong = 0;
    private static int asked = 0;

    private PromisesTest() { }

    public static void main(String[] args) {
        newObject();
        tape();
        gorge();
        faultsOfTokens();
        faultsOfLines();
        faultsOfNames();
        faultsOfFormulas();
        flockAndGround();
        formulas();
        mixedAndWants();
        salt();
        penAndDrive();
        day();
        dayOfAllAtOnce();
        matches();
        rain();
        undoAndRedo();
        foresight();
        trick();
        holdAndLead();
        law();
        pairs();
        wells();
        bare();
        seen();
        ask();
        boxes();
        sixtyDays();
        largest();
        System.out.println("promises: " + asked + " asked, " + wrong + " wrong");
        if (wrong > 0) {
            System.exit(1);
        }
    }

    private static void due(String promise, long want, long got) {
        asked++;
        if (got != want) {
            wrong++;
            System.out.println(promise + ": answered " + got + ", due is " + want);
        }
    }

    private static void due(String promise, boolean want, boolean got) {
        due(promise, want ? 1 : 0, got ? 1 : 0);
    }

    /** The sign ^ stands where the fault is, and is not of the text. */
    private static void faulty(int which, String marked) {
        GoatMatches x = Texts.of(TWO);
        Texts.tape(x, marked.replace("^", ""));
        due("4, gorge of " + marked, -1, x.gorge());
        due("5, fault of " + marked, which, x.fault(0));
        due("5, its place in " + marked, marked.indexOf('^'), x.fault(1));
        due("4, TAPE behind " + marked, 0, x.about(12));
        due("4, all else stays behind " + marked, 2, x.about(0));
    }

    private static void sound(int flocks, String text) {
        GoatMatches x = new GoatMatches();
        Texts.tape(x, text);
        due("4, gorge of " + text, flocks, x.gorge());
        due("5, no fault of " + text, 0, x.fault(0));
        due("5, no place in " + text, -1, x.fault(1));
    }

    private static void lie(String promise, GoatMatches x, int... want) {
        due(promise + ", how many lie", want.length, x.about(14));
        for (int i = 0; i < want.length; i++) {
            due(promise + ", lies " + i, want[i], x.lies(i));
        }
        due("33, behind the last", -2, x.lies(want.length));
        due("33, ahead of the first", -2, x.lies(-1));
    }

    private static void newObject() {
        GoatMatches x = new GoatMatches();
        int[] about = {0, 4, 4, 0, 9, 0, 0, 0, 0, 0, 0, 0, 0, 0, 0};
        for (int i = 0; i < about.length; i++) {
            due("1 and 41, about " + i, about[i], x.about(i));
        }
        due("41, another what", -1, x.about(15));
        due("41, another what", -1, x.about(-1));
        due("1, grass", 80, x.grass());
        due("1, matched", 0, x.matched());
        due("1, no cell 16", -1, x.ground(16, 0));
        due("1, no flock", -2, x.flock(0, 0));
        due("5, ahead of any gorge", 0, x.fault(0));
        due("5, ahead of any gorge", -1, x.fault(1));
        due("5, another what", -1, x.fault(2));
        due("1, nothing to undo", false, x.undo());
        due("1, nothing to redo", false, x.redo());
        due("1, nothing kept", -1, x.back(0));
        due("1, nothing lies", -2, x.lies(0));
        due("37, no flocks", 65535, x.ledges(0));
        due("38, no flocks", -1, x.ask(1, 0, 0));
        due("the constant", -1, GoatMatches.NONE);
    }

    private static void tape() {
        GoatMatches x = new GoatMatches();
        due("2, the highest byte first", 20, x.feed(0x67726565, 0x6e20333b, 0x20202020, 0x20200a0a, 0x64726177));
        due("3, n bytes", 16, x.end(16));
        due("4, read", 0, x.gorge());
        due("2, green 3", 48, x.grass());
        for (int i = 1; i <= 80; i++) {
            due("2, how many", 20 * i, x.feed(-1, i, 0, 255, -128));
        }
        due("2, more than 1,600", -1, x.feed(0, 0, 0, 0, 0));
        due("41, bytes", 1600, x.about(12));
        due("3, too many", -1, x.end(1601));
        due("3, below 0", -1, x.end(-1));
        due("3, nothing done", 1600, x.about(12));
        due("3, shorter", 1581, x.end(1581));
        due("2, one too many", -1, x.feed(0, 0, 0, 0, 0));
        due("3, shorter", 1580, x.end(1580));
        due("2, just enough", 1600, x.feed(0, 0, 0, 0, 0));
        due("3, none", 0, x.end(0));
        due("3, as many as there are", 0, x.end(0));
        due("3, more than there are", -1, x.end(1));
    }

    private static void gorge() {
        GoatMatches x = Texts.of(TWO);
        x.later(7);
        x.day();
        x.salt(0);
        x.pen(1);
        x.image(2);
        x.seen(1, 0, 0, true);
        x.wells();
        Texts.tape(x, "gorge 2 by 2;oops");
        due("4, a fault", -1, x.gorge());
        due("4, the day stays", 1, x.about(5));
        due("4, the acts stay", 3, x.about(8));
        due("4, what lies stays", 2, x.about(14));
        due("4, what is seen stays", 1, x.about(10));
        due("4, boxes stay", 1, x.back(2));
        Texts.tape(x, TWO);
        due("4, how many flocks", 2, x.gorge());
        int[] about = {2, 3, 2, 0, 2, 0, 29, 0, 0, 0, 0, 7, 0, 0, 0};
        for (int i = 0; i < about.length; i++) {
            due("4, about " + i, about[i], x.about(i));
        }
        due("4, no salt", 0, x.ground(0, 1));
        due("4, grass", 6, x.grass());
        due("4, boxes are empty", -1, x.back(2));
        due("4, an empty TAPE", 0, x.gorge());
        due("4, is the empty gorge", 80, x.grass());
        due("4, the time stays", 7, x.about(11));
        x = Texts.of("grass 1 1 0;green 9;");
        due("4, green of the others, told behind a grass too", 135, x.grass());
        due("4, grass", 0, x.ground(5, 0));
    }

    private static void faultsOfTokens() {
        sound(0, "");
        sound(0, " \n ");
        sound(0, "green9;draw 0999;");
        sound(0, "gorge2 by5;green\n0;");
        faulty(1, "gorge^2by5;");
        faulty(1, "^$");
        faulty(1, "green^\t9;");
        faulty(1, "^Green 9;");
        faulty(1, "^abcdefghi");
        faulty(2, "^abcdefgh;");
        faulty(1, "green ^00009;");
        faulty(1, "green ^9a;");
        faulty(1, "green ^12345a;");
        faulty(1, "green ^99999a");
        faulty(4, "green ^9999;");
        faulty(1, "green 9^\u00e9;");
        faulty(1, "green ^[;");
        faulty(2, "green 9^");
        faulty(2, "green 9 \n^");
        faulty(2, "green^");
        faulty(2, "^;");
        faulty(2, "^9;");
        faulty(2, "green ^green;");
        faulty(2, "green ^;");
        faulty(2, "green 9 ^9;");
        faulty(2, "^bride;");
        faulty(1, "^greengrass 1;");
    }

    private static void faultsOfLines() {
        sound(0, "gorge 2 by 5;");
        sound(0, "rain 100 of 9;evenings 20;draw 999;");
        sound(0, "rain 0 of 1;evenings 1;draw 0;");
        faulty(4, "gorge ^1 by 2;");
        faulty(4, "gorge ^6 by 2;");
        faulty(4, "gorge 2 by ^1;");
        faulty(4, "gorge 2 by ^6;");
        faulty(2, "gorge 2 ^2;");
        faulty(2, "gorge 2 by 2;^gorge 2 by 2;");
        faulty(2, "green 2;^gorge 2 by 2;");
        faulty(2, "grass 0 0 1;grass 1 0 1;^gorge 2 by 2;");
        faulty(4, "gorge 5 by 5;grass 0 4 1;grass 0 ^5 1;");
        faulty(4, "green ^10;");
        faulty(2, "green 1;^green 1;");
        faulty(2, "pull 1;^pull 1;");
        faulty(2, "rain 1 of 1;^rain 1 of 1;");
        faulty(2, "evenings 1;^evenings 1;");
        faulty(2, "draw 1;^draw 1;");
        faulty(4, "rain ^101 of 1;");
        faulty(4, "rain 100 of ^0;");
        faulty(4, "rain 100 of ^10;");
        faulty(2, "rain 100 ^at 1;");
        faulty(4, "evenings ^0;");
        faulty(4, "evenings ^21;");
        faulty(4, "draw ^1000;");
        faulty(4, "gorge 2 by 3;grass ^2 0 1;");
        faulty(4, "gorge 2 by 3;grass 0 ^3 1;");
        faulty(4, "grass 0 0 ^10;");
        faulty(3, "grass 0 1 1;grass 0 ^1 1;");
        faulty(4, "grass 0 1 1;grass 0 ^4 1;");
        String grasses = "grass 0 0 1;grass 1 0 1;grass 2 0 1;grass 3 0 1;grass 0 1 1;grass 1 1 1;grass 2 1 1;grass 3 1 1;";
        sound(0, grasses);
        faulty(2, grasses + "^grass 0 2 1;");
        faulty(2, grasses + "^grass 0 0 1;");
    }

    private static void faultsOfNames() {
        sound(3, "flock e bride at 3 3 size 9;flock one groom at 0 0 size 1;flock abcdefgh bride at 0 0 size 1;");
        faulty(2, "flock ^by bride at 0 0 size 1;");
        faulty(2, "flock ^7 bride at 0 0 size 1;");
        faulty(2, "flock a ^at 0 0 size 1;");
        faulty(2, "flock a bride ^0 0 size 1;");
        faulty(4, "flock a bride at ^4 0 size 1;");
        faulty(4, "flock a bride at 0 ^4 size 1;");
        faulty(2, "flock a bride at 0 0 ^1;");
        faulty(4, "flock a bride at 0 0 size ^0;");
        faulty(4, "flock a bride at 0 0 size ^10;");
        faulty(3, "flock a bride at 0 0 size 1;flock ^a groom at 0 0 size 1;");
        String six = FOUR + "flock e bride at 0 0 size 1;flock f groom at 0 0 size 1;";
        sound(6, six);
        faulty(2, six + "^flock g bride at 0 0 size 1;");
        sound(4, FOUR + "wants a b 0;wants b a 99;wants a d 5;");
        faulty(5, FOUR + "wants ^x b 1;");
        faulty(5, FOUR + "wants a ^x 1;");
        faulty(5, "wants ^a b 1;" + FOUR);
        faulty(3, FOUR + "wants a ^c 1;");
        faulty(3, FOUR + "wants a ^a 1;");
        faulty(3, FOUR + "wants a b 1;wants b a 1;wants a ^b 2;");
        faulty(4, FOUR + "wants a b ^100;");
        faulty(2, FOUR + "wants a ^4 1;");
        faulty(2, FOUR + "wants ^wants b 1;");
        sound(4, FOUR + "feud a b;feud a c;feud d b;");
        faulty(3, FOUR + "feud a ^a;");
        faulty(3, FOUR + "feud a b;feud b ^a;");
        faulty(5, FOUR + "feud a ^x;");
        faulty(5, FOUR + "feud ^x a;");
        faulty(2, FOUR + "feud a ^;");
        StringBuilder feuds = new StringBuilder(six);
        for (int i = 0; i < 6; i++) {
            for (int j = 0; j < i; j++) {
                feuds.append("feud ").append("acbdef".charAt(i)).append(' ').append("acbdef".charAt(j)).append(';');
            }
        }
        sound(6, feuds.toString());
        faulty(2, feuds + "^feud a b;");
    }

    private static void faultsOfFormulas() {
        sound(0, "pull 1<2 and not 3 or (4+5*6=7);");
        faulty(2, "pull ^;");
        faulty(2, "pull ^-1;");
        faulty(2, "pull 1+^not 2;");
        faulty(2, "pull 1<^not 2;");
        faulty(2, "pull 1<2^<3;");
        faulty(2, "pull 1=2^>3;");
        faulty(2, "pull 1 ^2;");
        faulty(2, "pull ^x;");
        faulty(2, "pull ^size;");
        faulty(2, "pull (1^;");
        faulty(2, "pull 1^);");
        faulty(2, "pull (1^ ".trim());
        faulty(2, "pull 1 and^");
        faulty(1, "pull 1+^12345;");
        faulty(1, "pull ^!;");
        sound(0, "pull (((((((1)))))));");
        faulty(2, "pull (((((((^(1))))))));");
        sound(0, "pull not not not not not not not 1;");
        faulty(2, "pull not not not not not not not ^not 1;");
        sound(0, "pull not(not(not(not(1)))) or (((((((1)))))));".replace("not(1)", "not 1"));
        faulty(2, "pull not(not(not(not ^(1))));");
        faulty(2, "pull not(not(not(not 1<^(1))));");
        String thirty = "1" + "+1".repeat(29);
        sound(0, "pull " + thirty + ";");
        faulty(2, "pull " + thirty + "+^1;");
        faulty(2, "pull " + thirty + "+^(1);");
        faulty(2, "pull (" + thirty.substring(4) + "+1+^1);");
        GoatMatches x = Texts.of("pull not(1+2)*grass;");
        due("41, units, ( e ) too", 4, x.about(13));
    }

    private static void flockAndGround() {
        GoatMatches x = Texts.of(TWO);
        int[] b = {2, 1, 3, 0, -1, 2};
        for (int i = 0; i < b.length; i++) {
            due("6, what " + i, b[i], x.flock(1, i));
        }
        due("6, a bride", 0, x.flock(0, 1));
        due("6, another what", -2, x.flock(0, 6));
        due("6, another what", -2, x.flock(0, -1));
        due("6, none such", -2, x.flock(2, 0));
        due("6, none such", -2, x.flock(-1, 0));
        x.drive(1, 1);
        x.drive(0, 1);
        x.pen(0);
        x.salt(1);
        due("6, its cell", 1, x.flock(1, 0));
        due("6, its home", 2, x.flock(1, 5));
        due("6, penned", 1, x.flock(0, 3));
        due("7, grass", 1, x.ground(1, 0));
        due("7, salt", 9, x.ground(1, 1));
        due("7, flocks", 3, x.ground(1, 2));
        due("7, nobody", 0, x.ground(2, 2));
        due("7, another what", -1, x.ground(1, 3));
        due("7, none such", -1, x.ground(6, 0));
        due("7, none such", -1, x.ground(-1, 0));
        due("11, all grass", 6, x.grass());
    }

    private static void formula(long want, String e) {
        GoatMatches x = Texts.of("gorge 4 by 3;grass 2 1 7;flock a bride at 0 0 size 1;flock b groom at 2 1 size 1;"
                + "flock c groom at 2 1 size 1;pull " + e + ";");
        x.salt(6);
        x.pen(0);
        x.pen(1);
        x.pen(2);
        x.day();
        due("8, " + e, want, x.pull(0, 6));
        due("8, no such flock", -1000000, x.pull(3, 0));
        due("8, no such cell", -1000000, x.pull(0, 12));
        due("8, no such cell", -1000000, x.pull(0, -1));
    }

    private static void formulas() {
        formula(5, "grass");
        formula(8, "salt");
        formula(2, "others");
        formula(3, "home");
        formula(0, "here");
        formula(1, "day");
        formula(3, "7/2");
        formula(-3, "(0-7)/2");
        formula(-1, "(0-7)%2");
        formula(1, "7%2");
        formula(0, "7/0");
        formula(0, "7%0");
        formula(9999, "9999");
        formula(7, "1+2*3");
        formula(-4, "1-2-3");
        formula(1, "8/4/2");
        formula(2, "2*3%4");
        formula(1, "1<2");
        formula(0, "2<2");
        formula(1, "2=2");
        formula(0, "1>2");
        formula(1, "3>2");
        formula(0, "not 5");
        formula(1, "not 0");
        formula(0, "not 1<2");
        formula(1, "not not 5");
        formula(1, "2 and 3");
        formula(0, "2 and 0");
        formula(1, "0 or 5");
        formula(0, "0 or 0");
        formula(1, "1 or 0 and 0");
        formula(0, "(1 or 0) and 0");
        formula(1, "not 1 and 0 or 1");
        formula(9999 * 9999 * 9999, "9999*9999*9999");
        GoatMatches x = Texts.of("gorge 4 by 3;grass 2 1 7;flock a bride at 0 0 size 1;");
        x.salt(6);
        due("8, its grass and 3 times its salt", 34, x.pull(0, 6));
        x = Texts.of("flock a bride at 0 0 size 1;flock b bride at 0 0 size 1;pull others*10+here;");
        due("8, others, not itself; here", 11, x.pull(0, 0));
        due("8, elsewhere", 0, x.pull(0, 1));
    }

    private static void mixedAndWants() {
        GoatMatches x = Texts.of(FOUR + "wants a b 7;wants b a 0;feud a d;pull 0;evenings 3;");
        due("9, at first", 0, x.mixed(0, 2));
        due("9, a feud", -1, x.mixed(0, 3));
        due("9, one side", -1, x.mixed(0, 1));
        due("9, itself", -1, x.mixed(0, 0));
        due("9, one can't be", -1, x.mixed(0, 4));
        due("9, one can't be", -1, x.mixed(-1, 0));
        x.day();
        x.day();
        due("9, twice", 2, x.mixed(0, 2));
        due("9, twice, the other way", 2, x.mixed(3, 1));
        due("10, wants", 7, x.wants(0, 2));
        due("10, wants 0", 0, x.wants(2, 0));
        due("10, not told", -1, x.wants(1, 2));
        due("10, one side", -1, x.wants(0, 1));
        due("10, itself", -1, x.wants(0, 0));
        due("10, none such", -2, x.wants(0, 4));
        due("10, none such", -2, x.wants(-1, 0));
        due("12, nobody", 0, x.matched());
        due("17, those without a feud", 4, x.day());
        due("12, all", 4, x.matched());
        due("6, with which", 2, x.flock(0, 4));
        due("6, with which", 3, x.flock(1, 4));
    }

    private static void salt() {
        GoatMatches x = Texts.of(TWO);
        due("13, none was there", 0, x.salt(4));
        due("13, nine days", 9, x.salt(4));
        due("13, an act each", 2, x.about(8));
        due("13, none such", -1, x.salt(6));
        due("13, none such", -1, x.salt(-1));
        due("13, nothing done", 2, x.about(8));
        x.pen(0);
        x.pen(1);
        for (int i = 8; i >= 0; i--) {
            x.day();
            due("17, a day less", i, x.ground(4, 1));
        }
        x.day();
        due("17, none stays none", 0, x.ground(4, 1));
    }

    private static void penAndDrive() {
        GoatMatches x = Texts.of(TWO);
        due("14, penned", 1, x.pen(1));
        due("41, who is penned", 2, x.about(7));
        due("14, none such", -1, x.pen(2));
        due("14, none such", -1, x.pen(-1));
        due("15, penned", -1, x.drive(1, 1));
        due("14, not any more", 0, x.pen(1));
        due("41, nobody", 0, x.about(7));
        due("15, not beside", -1, x.drive(1, 4));
        due("15, its own", -1, x.drive(1, 2));
        due("15, the next number, but not beside", -1, x.drive(1, 3));
        due("15, no such cell", -1, x.drive(1, 6));
        due("15, no such cell", -1, x.drive(0, -1));
        due("15, no such flock", -1, x.drive(2, 1));
        due("15, acts", 2, x.about(8));
        due("15, where it was", 2, x.drive(1, 5));
        due("15, there", 5, x.flock(1, 0));
        due("15, an act", 3, x.about(8));
        due("15, back", 5, x.drive(1, 2));
        due("16, not matched", -1, x.breaks(0));
        due("16, none such", -1, x.breaks(2));
        due("16, none such", -1, x.breaks(-1));
    }

    private static void day() {
        GoatMatches x = Texts.of(TWO);
        due("17, nobody matched", 0, x.day());
        due("17, of like ones its own", 0, x.flock(0, 0));
        due("17, eaten as far as there is", 0, x.ground(0, 0));
        due("17, the seed", 44, x.about(6));
        due("17, the day", 1, x.about(5));
        due("17, nobody matched", 0, x.day());
        due("17, of like ones the least number", 1, x.flock(0, 0));
        due("17, of like ones the least number", 1, x.flock(1, 0));
        due("17, mixed", 1, x.mixed(0, 1));
        due("17, the seed", 99, x.about(6));
        due("17, two matched", 2, x.day());
        due("17, down a row", 4, x.flock(0, 0));
        due("17, mixed", 2, x.mixed(1, 0));
        due("12, matched", 2, x.matched());
        x.day();
        due("17, still mixed", 3, x.mixed(0, 1));
        due("17, to the left", 3, x.flock(1, 0));
        due("17, one cell is left", 1, x.grass());
        // More calls than are promised of one object, but the document names this edge.
        x = new GoatMatches();
        for (int i = 0; i < 999; i++) {
            due("17, a day", 0, x.day());
        }
        due("17, behind 999", -1, x.day());
        due("17, nothing done", 999, x.about(5));
        x = Texts.of("green 9;flock a bride at 0 0 size 4;flock b groom at 0 0 size 3;pull 0;");
        x.pen(0);
        x.day();
        due("17, both eat, the penned too", 2, x.ground(0, 0));
        due("17, elsewhere nothing is eaten", 9, x.ground(1, 0));
    }

    private static void dayOfAllAtOnce() {
        GoatMatches x = Texts.of("gorge 3 by 2;flock a bride at 0 0 size 1;flock b groom at 1 0 size 1;pull others;");
        x.day();
        due("17, all by what is so at its beginning", 1, x.flock(0, 0));
        due("17, all by what is so at its beginning", 0, x.flock(1, 0));
        due("17, passing is not mixing", 0, x.mixed(0, 1));
        x.pen(1);
        x.day();
        due("17, the penned one stays", 0, x.flock(1, 0));
        due("17, the other one comes", 1, x.mixed(0, 1));
        x = Texts.of("gorge 3 by 3;flock a bride at 1 1 size 1;pull home*(day<1)+day*(9-home);");
        x.day();
        due("17, up is the least number", 1, x.flock(0, 0));
        x.day();
        due("17, by the day", 4, x.flock(0, 0));
    }

    private static void matches() {
        GoatMatches x = Texts.of("flock a bride at 0 0 size 1;flock b groom at 0 0 size 1;flock c bride at 0 0 size 1;"
                + "flock d groom at 0 0 size 1;pull 0;evenings 1;");
        due("17, two by two", 4, x.day());
        due("17, the first with the first", 1, x.flock(0, 4));
        due("17, then those who are left", 3, x.flock(2, 4));
        due("16, with whom it was", 2, x.breaks(3));
        due("16, not matched", -1, x.flock(2, 4));
        due("16, mixed never", 0, x.mixed(2, 3));
        due("16, others are mixed still", 1, x.mixed(2, 1));
        due("16, an act", 2, x.about(8));
        due("16, not matched any more", -1, x.breaks(2));
        due("12, two", 2, x.matched());
        x.breaks(0);
        due("17, matched, though mixed with another one before", 4, x.day());
        due("17, the first one that was mixed enough", 1, x.flock(0, 4));
        x = Texts.of("flock a bride at 0 0 size 1;flock b groom at 0 0 size 1;flock d groom at 0 0 size 1;pull 0;evenings 1;");
        x.day();
        x.breaks(0);
        x.drive(1, 1);
        x.pen(1);
        due("17, mixed enough", 2, x.day());
        due("17, with the one that is there", 2, x.flock(0, 4));
    }

    private static void rain() {
        GoatMatches x = Texts.of("gorge 2 by 2;green 0;grass 1 1 7;rain 45 of 4;draw 29;");
        x.day();
        due("17, rain by a rest of 44", 21, x.grass());
        due("17, 9 at most", 9, x.ground(3, 0));
        x = Texts.of("gorge 2 by 2;green 0;rain 44 of 4;draw 29;");
        x.day();
        due("17, no rain by a rest of 44", 0, x.grass());
        x = Texts.of("gorge 2 by 2;green 0;draw 29;rain 100 of 1;");
        for (int i = 1; i < 4; i++) {
            x.day();
            due("17, rain each day", 4 * i, x.grass());
        }
        due("17, the seed", 634, x.about(6));
        due("32, it rains", 0, Texts.of("green 0;rain 100 of 1;").bare());
    }

    private static void undoAndRedo() {
        GoatMatches x = Texts.of(TWO);
        x.day();
        x.salt(1);
        x.pen(0);
        x.drive(1, 5);
        due("41, acts", 4, x.about(8));
        due("18, undo", true, x.undo());
        due("18, as it was", 2, x.flock(1, 0));
        due("18, undo", true, x.undo());
        due("18, not penned", 0, x.about(7));
        due("41, undone", 2, x.about(9));
        due("41, left", 2, x.about(8));
        due("19, redo", true, x.redo());
        due("19, penned", 1, x.about(7));
        due("15, what does nothing is no act", -1, x.drive(0, 9));
        due("19, redo", true, x.redo());
        due("19, driven", 5, x.flock(1, 0));
        due("19, nothing more", false, x.redo());
        x.undo();
        x.undo();
        x.undo();
        due("18, the salt", 0, x.ground(1, 1));
        x.salt(0);
        due("19, another act", false, x.redo());
        x.undo();
        due("18, the day", true, x.undo());
        due("18, the seed", 29, x.about(6));
        due("18, the grass", 6, x.grass());
        due("18, none", false, x.undo());
        due("19, the day", true, x.redo());
        due("19, the seed", 44, x.about(6));
        for (int i = 0; i < 45; i++) {
            x.pen(i % 2);
        }
        due("41, 40 at most", 40, x.about(8));
        for (int i = 0; i < 40; i++) {
            due("18, 40", true, x.undo());
        }
        due("18, the oldest are gone", false, x.undo());
        due("18, behind the day and five pens", 1, x.about(7));
        due("41, all can be done again", 40, x.about(9));
        for (int i = 0; i < 40; i++) {
            due("19, 40", true, x.redo());
        }
        due("19, none", false, x.redo());
        due("19, who is penned behind 45", 1, x.about(7));
    }

    private static void foresight() {
        GoatMatches x = Texts.of(TWO);
        int[] a = {0, 0, 1, 4, 3, 3};
        int[] often = {0, 0, 1, 2, 3, 4};
        for (int n = 0; n < a.length; n++) {
            due("20, behind " + n, a[n], x.will(0, n));
            due("21, in " + n, often[n], x.mixes(0, 1, n));
        }
        due("20, too far", -1, x.will(0, 61));
        due("20, below 0", -1, x.will(0, -1));
        due("20, none such", -1, x.will(2, 0));
        due("21, too far", -1, x.mixes(0, 1, 61));
        due("21, below 0", -1, x.mixes(0, 1, -1));
        due("21, itself", -1, x.mixes(0, 0, 1));
        due("21, none such", -1, x.mixes(0, 2, 1));
        due("22, in three days", 3, x.weds(0));
        due("22, in three days", 3, x.weds(1));
        due("22, none such", -1, x.weds(2));
        due("26, now", 3, x.bachelors(0));
        due("26, behind 2", 3, x.bachelors(2));
        due("26, behind 3", 0, x.bachelors(3));
        due("26, another number", -1, x.bachelors(61));
        due("26, another number", -1, x.bachelors(-1));
        due("20, nothing is done", 0, x.about(5));
        x.day();
        x.day();
        due("21, more of them", 1, x.mixes(0, 1, 1));
        x.day();
        due("22, already", 0, x.weds(0));
        x = Texts.of(FOUR + "pull 0;evenings 20;");
        due("22, behind 20", 20, x.weds(3));
        x.drive(3, 1);
        x.pen(3);
        due("22, never", -1, x.weds(3));
    }

    private static void trick() {
        GoatMatches x = Texts.of(TWO);
        due("23, one", 1, x.trick(0, 1, 1, 1, 0));
        due("23, which", 2, x.trick(0, 1, 1, 1, 1));
        due("23, both days", 2, x.trick(0, 1, 2, 2, 1));
        due("23, none needed", 0, x.trick(0, 1, 1, 2, 0));
        due("23, none needed", 0, x.trick(0, 1, 1, 2, 1));
        due("23, one is no other", -1, x.trick(0, 0, 1, 2, 1));
        due("23, more than the days", -1, x.trick(0, 1, 2, 1, 0));
        due("23, evenings", -1, x.trick(0, 1, 0, 1, 0));
        due("23, evenings", -1, x.trick(0, 1, 10, 20, 0));
        due("23, days", -1, x.trick(0, 1, 1, 0, 0));
        due("23, days", -1, x.trick(0, 1, 1, 21, 0));
        due("23, what", -1, x.trick(0, 1, 1, 2, 2));
        due("23, what", -1, x.trick(0, 1, 1, 2, -1));
        due("23, none such", -1, x.trick(0, 2, 1, 2, 0));
        due("23, nothing is done", 0, x.about(8));
        x.salt(1);
        due("23, salt is there", 0, x.trick(0, 1, 1, 1, 0));
        x = Texts.of("gorge 5 by 2;pull salt*(1-here);flock a bride at 0 0 size 1;flock b groom at 4 0 size 1;");
        due("23, each by a cell to the one between", 3, x.trick(0, 1, 1, 2, 0));
        due("23, which", 14, x.trick(0, 1, 1, 2, 1));
        x.drive(0, 1);
        x.drive(0, 2);
        due("23, the one between", 8, x.trick(0, 1, 1, 1, 1));
        x.pen(1);
        due("23, three are not enough", -1, x.trick(0, 1, 1, 1, 0));
        x = Texts.of("gorge 4 by 2;pull salt*(1-here);flock a bride at 0 0 size 1;flock b groom at 3 0 size 1;");
        x.pen(1);
        due("23, it turns back on its own salt", -1, x.trick(0, 1, 1, 3, 0));
        x.drive(0, 1);
        due("23, two", 2, x.trick(0, 1, 1, 2, 0));
        due("23, which", 12, x.trick(0, 1, 1, 2, 1));
        x.salt(3);
        due("23, one where there is none yet", 4, x.trick(0, 1, 1, 2, 1));
        due("23, too few days", -1, x.trick(0, 1, 1, 1, 1));
        due("23, 20 days, over and over", 4, x.trick(0, 1, 2, 20, 1));
        x = Texts.of("gorge 3 by 2;pull grass;flock a bride at 0 0 size 1;flock b groom at 2 0 size 1;");
        due("23, salt that draws nobody", -1, x.trick(0, 1, 1, 1, 0));
    }

    private static void holdAndLead() {
        GoatMatches x = Texts.of(TWO);
        due("24, none needed", 0, x.hold(0, 1, 1, 0));
        due("24, none needed", 0, x.hold(0, 1, 1, 1));
        due("24, one", 1, x.hold(0, 1, 2, 0));
        due("24, the least set", 1, x.hold(0, 1, 2, 1));
        due("24, days", -1, x.hold(0, 1, 0, 0));
        due("24, days", -1, x.hold(0, 1, 21, 0));
        due("24, what", -1, x.hold(0, 1, 1, 2));
        due("24, itself", -1, x.hold(1, 1, 1, 0));
        due("24, none such", -1, x.hold(-1, 1, 1, 0));
        x.pen(0);
        due("24, a penned one is not penned once more", 0, x.hold(0, 1, 2, 1));
        x = Texts.of("gorge 3 by 2;pull others*9+grass;flock a bride at 0 0 size 1;flock b groom at 2 0 size 1;"
                + "green 0;grass 1 0 5;");
        due("24, both, as each would come to the other", 2, x.hold(0, 1, 2, 0));
        due("24, both", 3, x.hold(0, 1, 2, 1));
        x = Texts.of(FOUR + "pull 0;");
        due("24, all are not enough", -1, x.hold(0, 2, 1, 0));
        x = Texts.of("gorge 3 by 2;pull others*5;flock a bride at 0 0 size 1;flock b groom at 2 0 size 1;");
        due("25, they would but pass", 0, x.lead(0, 1, 3, 1));
        due("25, left there", 0, x.lead(0, 1, 3, 0));
        x.pen(1);
        due("25, to the cell beside", 1, x.lead(0, 1, 3, 0));
        due("25, how often", 3, x.lead(0, 1, 3, 1));
        due("25, penned", -1, x.lead(1, 0, 3, 1));
        due("25, days", -1, x.lead(0, 1, 0, 1));
        due("25, days", -1, x.lead(0, 1, 21, 1));
        due("25, what", -1, x.lead(0, 1, 1, 2));
        due("25, itself", -1, x.lead(0, 0, 1, 1));
        due("25, none such", -1, x.lead(2, 1, 1, 1));
        due("25, nothing is done", 0, x.flock(0, 0));
        x.drive(0, 1);
        due("24, the one that is not penned", 1, x.hold(0, 1, 1, 1));
        x.pen(1);
        x.pen(0);
        due("24, the other one", 2, x.hold(0, 1, 1, 1));
    }

    private static void law() {
        String three = "gorge 2 by 2;pull here*(day<3)+home*(day>2);flock a bride at 0 0 size 1;"
                + "flock b groom at 1 0 size 1;evenings ";
        GoatMatches x = Texts.of(three + "3;");
        x.drive(1, 0);
        due("21, three times", 3, x.mixes(0, 1, 60));
        due("28, as told", 0, x.law(3));
        due("28, fewer", 0, x.law(1));
        due("28, two less", -2, x.law(4));
        due("28, two less", -2, x.law(20));
        due("28, another n", -100, x.law(0));
        due("28, another n", -100, x.law(21));
        x = Texts.of(three + "4;");
        x.drive(1, 0);
        due("28, two more", 2, x.law(3));
        due("28, as told", 0, x.law(4));
    }

    private static void pairs() {
        GoatMatches x = Texts.of(FOUR + "wants a b 2;wants a d 1;wants c d 2;wants c b 1;"
                + "wants b c 2;wants b a 1;wants d a 2;wants d c 1;");
        due("29, two", 2, x.calm());
        lie("29, the first", x, 2, 3, 0, 1);
        due("27, all have together", 6, x.dear());
        lie("27, of like ones the first", x, 2, 3, 0, 1);
        for (int f = 0; f < 4; f++) {
            due("30, the most", 2, x.reach(f));
        }
        due("30, no such flock", -1, x.reach(4));
        due("30, no such flock", -1, x.reach(-1));
        x = Texts.of(FOUR + "wants a b 2;wants a d 1;wants c d 2;wants c b 1;"
                + "wants b c 9;wants b a 1;wants d a 9;wants d c 1;");
        due("29, two", 2, x.calm());
        lie("29, the first", x, 2, 3, 0, 1);
        due("27, all have together", 20, x.dear());
        lie("27, the dearest", x, 3, 2, 1, 0);
        due("30, of a groom", 9, x.reach(2));
        x = Texts.of(FOUR + "wants a b 0;wants b a 0;");
        due("29, alone or not", 2, x.calm());
        lie("29, alone first", x, -1, -1, -1, -1);
        due("27, nothing", 0, x.dear());
        lie("27, alone first", x, -1, -1, -1, -1);
        x = Texts.of(FOUR + "wants a b 5;wants d a 5;wants a d 5;feud a d;");
        due("29, nobody", 1, x.calm());
        lie("29, nobody", x, -1, -1, -1, -1);
        due("30, nothing", 0, x.reach(0));
        x = Texts.of(FOUR + "wants a b 5;wants b a 5;wants a d 5;wants d a 5;");
        due("29, of like ones either, as both must have more", 2, x.calm());
        lie("29, the first", x, 2, -1, 0, -1);
    }

    private static void wells() {
        GoatMatches x = Texts.of(FOUR + "pull 0;evenings 1;");
        due("31, no order is better", 35, x.wells());
        lie("31, the first", x, 0, 1, 2, 3);
        x.day();
        x.breaks(1);
        // a waits 0 hours, c 1 at 2 an hour, d 3 at 4 an hour, b, which is matched, 7 at 1.
        due("31, by size or 1", 1 * 2 + 3 * 4 + 7 * 1, x.wells());
        lie("31, the big matched one last", x, 0, 1, 3, 2);
        due("31, nobody", 0, new GoatMatches().wells());
    }

    private static void bare() {
        due("32, at once", 0, Texts.of("green 0;").bare());
        due("32, never", -1, new GoatMatches().bare());
        GoatMatches x = Texts.of("gorge 2 by 2;green 0;grass 0 0 9;flock a bride at 0 0 size 2;");
        due("32, five days", 5, x.bare());
        due("32, nothing is done", 9, x.grass());
        x.pen(0);
        x.day();
        due("32, four days", 4, x.bare());
    }

    private static void seen() {
        GoatMatches x = Texts.of(TWO);
        due("37, all", 63, x.ledges(0));
        due("34, its number", 0, x.seen(1, 0, 1, true));
        due("37, one", 2, x.ledges(0));
        due("37, ahead of it", 63, x.ledges(-1));
        due("36, later", 5, x.later(5));
        due("34, its number", 1, x.seen(0, 1, 2, false));
        due("37, nothing would do", 0, x.ledges(5));
        due("37, as known at 4", 2, x.ledges(4));
        due("38, no ledges", -1, x.ask(1, 0, 5));
        due("35, untold", true, x.untell(1));
        due("35, already", false, x.untell(1));
        due("35, none such", false, x.untell(2));
        due("35, none such", false, x.untell(-1));
        due("37, told and untold at once", 2, x.ledges(5));
        due("36, later", 6, x.later(1));
        due("35, untold later", true, x.untell(0));
        due("37, as known at 5", 2, x.ledges(5));
        due("37, as known at 6", 63, x.ledges(6));
        due("34, is not", 2, x.seen(1, 0, 1, false));
        due("37, all but one", 61, x.ledges(6));
        x.salt(0);
        due("37, without salt; where there are two it stays at home", 62, x.ledges(6));
        due("34, days", -1, x.seen(10, 0, 0, true));
        due("34, days", -1, x.seen(-1, 0, 0, true));
        due("34, no such flock", -1, x.seen(0, 2, 0, true));
        due("34, no such cell", -1, x.seen(0, 0, 6, true));
        for (int i = 3; i < 30; i++) {
            due("34, its number", i, x.seen(9, 1, 2, true));
        }
        due("34, there are 30", -1, x.seen(9, 1, 2, true));
        due("41, seen", 30, x.about(10));
        due("36, by 0", 6, x.later(0));
        due("36, below 0", -1, x.later(-1));
        due("36, above 1000", -1, x.later(1001));
        for (int i = 1; i < 100; i++) {
            x.later(1000);
        }
        due("36, up to 100,000", 100000, x.later(994));
        due("36, above", -1, x.later(1));
        due("36, nothing done", 100000, x.about(11));
    }

    private static void ask() {
        GoatMatches x = Texts.of(TWO);
        due("38, all stay alike, so the first", 0, x.ask(0, 0, 0));
        due("38, six are left", 6, x.ask(0, 1, 0));
        due("38, what", -1, x.ask(0, 2, 0));
        due("38, what", -1, x.ask(0, -1, 0));
        due("38, days", -1, x.ask(10, 0, 0));
        due("38, days", -1, x.ask(-1, 0, 0));
        due("38, behind a day: four leave it at home", 4, x.ask(1, 1, 0));
        x = Texts.of("gorge 5 by 2;green 1;flock a bride at 0 0 size 1;flock b groom at 2 0 size 1;");
        due("38, the one with three cells beside", 1, x.ask(1, 0, 0));
        due("38, seven are left", 7, x.ask(1, 1, 0));
        x.pen(1);
        due("38, a penned one tells nothing", 0, x.ask(1, 0, 0));
        due("38, eight are left", 8, x.ask(1, 1, 0));
    }

    private static void boxes() {
        GoatMatches x = Texts.of(TWO);
        x.day();
        x.day();
        x.pen(1);
        x.salt(3);
        due("39, the day", 2, x.image(2));
        due("39, none such", -1, x.image(3));
        due("39, none such", -1, x.image(-1));
        x.day();
        x.day();
        x.pen(1);
        x.seen(1, 0, 1, true);
        x.later(3);
        x.wells();
        due("40, none such", -1, x.back(3));
        due("40, none such", -1, x.back(-1));
        due("40, nothing was kept", -1, x.back(0));
        due("40, nothing done", 7, x.about(8));
        due("40, the day", 2, x.back(2));
        int[] about = {2, 3, 2, 0, 2, 2, 99, 2, 0, 0, 1, 3, 0, 0, 2};
        for (int i = 0; i < about.length; i++) {
            due("40, about " + i, about[i], x.about(i));
        }
        due("40, mixed", 1, x.mixed(0, 1));
        due("40, salt", 9, x.ground(3, 1));
        due("40, grass", 3, x.grass());
        due("40, where", 1, x.flock(1, 0));
        due("40, matched", 0, x.matched());
        x.day();
        due("40, the box keeps it", 2, x.back(2));
        due("39, over it", 2, x.image(2));
    }

    /** One that first leaves home on the day 60, or on 61, to where the other one is penned. */
    private static void sixtyDays() {
        String late = "gorge 2 by 2;green 0;grass 0 0 1;flock b groom at 1 0 size 1;pull home*(day>";
        String bride = "flock a bride at 1 1 size 1;";
        due("32, 60", 60, Texts.of(late + "58);").bare());
        due("32, 60 are not enough", -1, Texts.of(late + "59);").bare());
        for (int day = 58; day < 60; day++) {
            GoatMatches x = Texts.of(late + day + ");evenings 1;" + bride);
            x.drive(1, 2);
            x.drive(1, 0);
            x.pen(1);
            due("22, 60 at most", day == 58 ? 60 : -1, x.weds(0));
            due("20, behind 60", day == 58 ? 0 : 1, x.will(0, 60));
            due("21, behind 60", day == 58 ? 1 : 0, x.mixes(0, 1, 60));
            due("26, behind 60", day == 58 ? 0 : 3, x.bachelors(60));
            x = Texts.of(late + day + ");evenings 2;" + bride);
            x.drive(1, 2);
            x.drive(1, 0);
            x.pen(1);
            due("28, behind 60", day == 58 ? 2 : 0, x.law(1));
        }
    }

    /** All 25 cells, 6 flocks, 30 units, and all days that can be asked for. */
    private static void largest() {
        StringBuilder e = new StringBuilder("salt*day%3");
        for (int i = 0; i < 9; i++) {
            e.append("+grass*").append(i).append("%").append(i + 2);
        }
        GoatMatches x = Texts.of("gorge 5 by 5;flock a bride at 0 0 size 1;flock b groom at 4 4 size 9;"
                + "flock c bride at 4 0 size 2;flock d groom at 0 4 size 3;flock e bride at 2 2 size 4;"
                + "flock f groom at 2 3 size 5;pull " + e + ";rain 30 of 2;evenings 20;");
        due("41, units", 30, x.about(13));
        due("37, all cells", (1 << 25) - 1, x.ledges(0));
        due("38, all are where they are", 25, x.ask(0, 1, 0));
        due("7, the last cell", 2, x.ground(24, 2));
        due("13, the last cell", 0, x.salt(24));
        due("37, all but the last", (1 << 24) - 1, x.ledges(0));
        due("23, never in a day", -1, x.trick(0, 1, 1, 1, 0));
        due("23, never so far in seven days", -1, x.trick(0, 1, 9, 11, 0));
        due("24, never so far in three days", 0, x.hold(0, 1, 3, 0));
        due("25, never so far in three days", 0, x.lead(0, 1, 2, 1));
        due("8, no cell 25", -1000000, x.pull(0, 25));
        due("34, no cell 25", -1, x.seen(0, 0, 25, true));
        due("15, to the last cell", -1, x.drive(1, 24));
        due("15, from it", 24, x.drive(1, 23));
        due("15, to it", 23, x.drive(1, 24));
        x = Texts.of("gorge 5 by 5;flock a bride at 4 3 size 1;flock b groom at 4 4 size 1;pull salt*(1-here);");
        x.pen(1);
        due("23, the last cell", 1 << 24, x.trick(0, 1, 1, 1, 1));
        due("23, it stays there", 1 << 24, x.trick(0, 1, 9, 20, 1));
    }
}
