/** Each sentence of part 3 of the terms, and of promises 13 to 16, 18, 19, that names a boundary case. */
public final class EdgeTextsTest {
    private static final Due due = new Due();
    private static final int MIN = Integer.MIN_VALUE;
    private static final int MAX = Integer.MAX_VALUE;
    private static final String TOLD = "step l takes 1 loud 1 left;step r takes 2 loud 1 right;step n takes 9 loud 1 still;step s takes 1 loud 1;"
        + "letter a l;letter b r;letter c n n n n n;letter d l l;letter e n;letter f s;ear x floors 0;ear y floors 1;";
    private static final String DOUBLE = "step a takes 1 loud 1;step b takes 1 loud 2;step c takes 2 loud 2;step w takes 1 loud 0 still;"
        + "letter m a;letter n b;letter o c;letter p w;ear e floors 0;ear f floors 1;ear g floors 2;";
    private static final String SECRET = "step s takes 1 loud 1;step t takes 1 loud 2;letter a s;letter b t;"
        + "ear e floors 2;ear f floors 3;ear g floors 0 book a;ear h floors 1 book a b;";
    private static final String TIMED = "step s takes 1 loud 1;step t takes 2 loud 1;step w takes 1 loud 1 still;letter a s t;letter b w;letter c t;";

    public static void main(String[] args) {
        tells();
        tellIsRefused();
        hushes();
        hushIsRefused();
        doubles();
        doublesTakeTheSame();
        doublesByFeet();
        doubledIsRefused();
        secrets();
        secretByNone();
        secretIsFirst();
        secretIsSpent();
        secretIsRefused();
        timedBySet();
        timedIsRefused();
        deals();
        dealsOfLikeOnes();
        dealsWithoutFeet();
        due.finish();
    }

    private static LimpCode told(String school, int text, int... letters) {
        return tell(Due.taught(school), text, letters);
    }

    private static LimpCode tell(LimpCode x, int text, int... letters) {
        for (int letter : letters) {
            if (x.tell(text, letter) < 0) {
                due.is("the test's own letter " + letter, -1, 0);
            }
        }
        return x;
    }

    private static LimpCode toldBoth(String school, int letter, int times) {
        LimpCode x = Due.taught(school);
        for (int i = 0; i < times; i++) {
            tell(x, 0, letter);
            tell(x, 1, letter);
        }
        return x;
    }

    // ---- tell, hush

    private static void tells() {
        due.says("A LETTER comes behind TEXT 0 or 1: what its WALK takes then");
        for (int text = 0; text < 2; text++) {
            LimpCode x = Due.taught(TOLD);
            due.is("a", x.tell(text, 0), 1);
            due.is("a b", x.tell(text, 1), 3);
            due.is("a b c", x.tell(text, 2), 48);
            due.is("its letters", x.about(6 + text), 3);
            due.is("the other text's letters", x.about(7 - text), 0);
            due.is("nothing is walked", x.about(3), 0);
            due.is("say", x.say(text), 48);
        }
        LimpCode x = Due.taught(TOLD);
        for (int i = 1; i <= 60; i++) {
            due.is("letter " + i, x.tell(1, 5), i);
        }
        due.is("60 letters", x.about(7), 60);
        due.is("51 and nine", told(TOLD, 0, 2, 5, 5, 5, 5, 5, 5).tell(0, 4), 60);
        due.says("a TEXT's foot is the left one at first, whatever is walked in earnest");
        LimpCode y = Due.taught(TOLD);
        y.step(0);
        due.is("tell l", y.tell(0, 0), 1);
        due.is("tell r in the other", y.tell(1, 1), -1);
    }

    private static void refusedTell(String what, java.util.function.Supplier<LimpCode> made, int text, int letter) {
        Twins.same(due, what, made, x -> due.is(what, x.tell(text, letter), -1));
    }

    private static void tellIsRefused() {
        due.says("tell: NONE, doing nothing, if one can't be");
        for (int n : new int[] {-1, 2, 3, MIN, MAX}) {
            refusedTell("text " + n, () -> told(TOLD, 0, 0), n, 5);
        }
        for (int n : new int[] {-1, 6, 7, 10, MIN, MAX}) {
            refusedTell("letter " + n, () -> told(TOLD, 0, 0), 0, n);
            refusedTell("letter " + n, () -> told(TOLD, 0, 0), 1, n);
        }
        for (int t = 0; t < 2; t++) {
            int text = t;
            due.says("tell: NONE, doing nothing, if one can't be by the foot");
            refusedTell("r at first", () -> Due.taught(TOLD), text, 1);
            refusedTell("l by the right foot", () -> told(TOLD, text, 0), text, 0);
            refusedTell("l by the right foot behind a still one", () -> told(TOLD, text, 0, 4), text, 0);
            refusedTell("l l", () -> told(TOLD, text, 4), text, 3);
            refusedTell("l l by the right foot", () -> told(TOLD, text, 5), text, 3);
            due.says("tell: NONE, doing nothing, if one can't be of more than 60");
            refusedTell("to 61 by nine", () -> told(TOLD, text, 2, 5, 5, 5, 5, 5, 5, 5), text, 4);
            refusedTell("to 61 by two", () -> told(TOLD, text, 2, 4, 5, 5, 5, 5, 5), text, 1);
            refusedTell("to 61 by one", () -> told(TOLD, text, 2, 4, 5, 5, 5, 5, 5, 5), text, 0);
            refusedTell("to 90", () -> told(TOLD, text, 2), text, 2);
        }
    }

    private static void hushes() {
        due.says("TEXT 0 or 1 is none: how many LETTERS it had");
        for (int text = 0; text < 2; text++) {
            LimpCode x = tell(told(TOLD, 0, 0, 1, 0), 1, 4, 5, 1);
            due.is("hush", x.hush(text), 3);
            due.is("its letters", x.about(6 + text), 0);
            due.is("the other's letters", x.about(7 - text), 3);
            due.is("say", x.say(text), 0);
            due.is("hush again", x.hush(text), 0);
            due.is("the left foot is first again", x.tell(text, 0), 1);
            due.is("the other's foot stays", x.tell(1 - text, text), text == 0 ? 13 : 6);
        }
        due.is("hush of 60", toldBoth(TOLD, 5, 60).hush(1), 60);
    }

    private static void hushIsRefused() {
        due.says("hush: NONE if there is none such");
        for (int text : new int[] {-1, 2, 3, MIN, MAX}) {
            Twins.same(due, "hush(" + text + ")", () -> tell(told(TOLD, 0, 0), 1, 5, 5), x -> due.is("hush(" + text + ")", x.hush(text), -1));
        }
    }

    // ---- doubled

    private static void doubled(LimpCode x, int a, int b, long want, int... steps) {
        String call = "doubled(" + a + ", " + b + ")";
        x.dealt();
        due.is(call, x.doubled(a, b), want);
        due.lie(call, x, steps);
    }

    private static void doubles() {
        due.says("DOUBLE: WALKS in which the first HEARS what it HEARS in the WALK of TEXT 0, the second what it HEARS in that of TEXT 1");
        LimpCode x = tell(told(DOUBLE, 0, 1), 1, 1);
        doubled(x, 0, 1, 1, 1);
        LimpCode y = tell(told(DOUBLE, 0, 0), 1, 1);
        doubled(y, 0, 1, 0);
        doubled(y, 1, 0, 0);
        doubled(y, 2, 1, 1, 1);
        doubled(y, 1, 2, 2, 0);
        doubled(Due.taught(DOUBLE), 0, 1, 1);
        due.says("DOUBLE by two unlike EARS");
        for (int ear = 0; ear < 3; ear++) {
            doubled(y, ear, ear, -1);
        }
        // Ears of one floor are unlike, too.
        doubled(told("step s takes 1 loud 1;letter a s;ear e floors 0;ear f floors 0;", 0), 0, 1, 1);
        doubled(toldBoth("step s takes 1 loud 1;letter a s;ear e floors 0;ear f floors 0;", 0, 3), 0, 1, 1, 0, 0, 0);
    }

    private static void doublesTakeTheSame() {
        due.says("DOUBLE: (both must take the same TIME)");
        doubled(told(DOUBLE, 0, 3), 1, 2, 0);
        doubled(told(DOUBLE, 1, 3), 1, 2, 0);
        doubled(tell(told(DOUBLE, 0, 3), 1, 3, 3), 1, 2, 0);
        doubled(tell(told(DOUBLE, 0, 3, 3, 3), 1, 3, 3), 1, 2, 0);
        // The same time by other letters: o, and n p.
        doubled(tell(told(DOUBLE, 0, 2), 1, 1, 3), 0, 1, 2, 1, 3);
        doubled(toldBoth(DOUBLE, 1, 60), 0, 1, 1, repeat(1, 60));
    }

    private static int[] repeat(int step, int times) {
        int[] all = new int[times];
        java.util.Arrays.fill(all, step);
        return all;
    }

    private static void doublesByFeet() {
        due.says("A WALK is a row of STEPS: of left, of right by that foot alone");
        String school = "step l takes 1 loud 1 left;step r takes 1 loud 1 right;step s takes 1 loud 1;step w takes 1 loud 1 still;letter a s;ear e floors 0;ear f floors 0;";
        doubled(toldBoth(school, 0, 1), 0, 1, 3, 0);
        // By left or s the turn goes on, by w it stays: three ways each.
        doubled(toldBoth(school, 0, 2), 0, 1, 9, 0, 1);
        doubled(toldBoth(school, 0, 3), 0, 1, 27, 0, 1, 0);
    }

    private static void doubledIsRefused() {
        due.says("doubled: NONE if one can't be .. (behind 0, NONE: nothing)");
        for (int ear : new int[] {-1, 3, 4, MIN, MAX}) {
            LimpCode x = tell(told(DOUBLE, 0, 0), 1, 1);
            doubled(x, ear, 0, -1);
            doubled(x, 0, ear, -1);
            doubled(x, ear, ear, -1);
        }
        doubled(told(DOUBLE, 0, 3), 0, 0, -1);
        doubled(told(DOUBLE, 0, 3), 0, 3, -1);
        Twins.sameButLying(due, "doubled changes nothing else", () -> tell(told(DOUBLE, 0, 2), 1, 1, 3), x -> {
            x.doubled(0, 1);
            x.doubled(1, 1);
        });
    }

    // ---- secret

    private static void secret(LimpCode x, int third, int want, int... steps) {
        String call = "secret(0, 1, " + third + ")";
        x.dealt();
        due.is(call, x.secret(0, 1, third), want);
        due.lie(call, x, steps);
    }

    private static void refusedSecret(LimpCode x, int a, int b, int third) {
        String call = "secret(" + a + ", " + b + ", " + third + ")";
        x.dealt();
        due.is(call, x.secret(a, b, third), -1);
        due.lie(call, x);
    }

    private static void secrets() {
        due.says("secret: 1 if there is one, 0 if none");
        secret(toldBoth(SECRET, 0, 1), 2, 1, 1);
        secret(toldBoth(SECRET, 0, 1), 3, 0);
        secret(toldBoth(SECRET, 0, 2), 2, 1, 0, 1);
        secret(tell(told(SECRET, 0, 0, 0), 1, 1), 2, 0);
        due.says("secret: that has no READS of it, nothing missed");
        // Both walks are read by one missed; nothing missed, only the one that is heard.
        String missed = "step p takes 1 loud 0;step s takes 1 loud 1;letter a s;ear e floors 8;ear f floors 9;ear g floors 0;ear h floors 1;";
        LimpCode x = toldBoth(missed, 0, 1);
        secret(x, 2, 1, 0);
        secret(x, 3, 0);
        x.step(0);
        due.is("it has reads by one missed", x.reads(2, 1), 1);
        // DOUBLE itself misses nothing: f would hear 1 where it must hear 0.
        LimpCode y = tell(told(DOUBLE, 0, 0), 1, 1);
        due.is("secret(1, 0, 2)", y.secret(1, 0, 2), 0);
        due.lie("secret(1, 0, 2)", y);
        due.is("secret(1, 0, -1)", y.secret(1, 0, -1), 0);
        due.lie("secret(1, 0, -1)", y);
        due.says("secret: (The empty TEXT is of an empty WALK.)");
        secret(Due.taught(SECRET), 2, 0);
        due.says("secret: the third reads by the left foot at first");
        String feet = "step s takes 1 loud 1;step r takes 1 loud 1 right;letter a s;letter b r;ear e floors 0;ear f floors 0;ear g floors 0 book b;";
        secret(toldBoth(feet, 0, 1), 2, 1, 0);
        secret(toldBoth(feet.replace("right", "left"), 0, 1), 2, 0);
        due.says("secret: the third reads by its book");
        secret(toldBoth("step s takes 1 loud 1;step t takes 1 loud 1;letter a s s;letter b t;ear e floors 0;ear f floors 0;ear g floors 0 book a;", 1, 2), 2, 0);
        secret(toldBoth("step s takes 1 loud 1;step t takes 1 loud 1;letter a s s;letter b t;ear e floors 0;ear f floors 0;ear g floors 0 book a;", 1, 3), 2, 1, 0, 0, 0);
    }

    private static void secretByNone() {
        due.says("DOUBLE by a third EAR (or none)");
        secret(toldBoth(SECRET, 0, 2), -1, 1, 0, 0);
        secret(Due.taught(SECRET), -1, 1);
        secret(tell(told(DOUBLE, 0, 0), 1, 1), -1, 0);
        secret(told(SECRET, 0, 0), -1, 0);
        secret(toldBoth(SECRET, 0, 60), -1, 1, repeat(0, 60));
    }

    private static void secretIsFirst() {
        due.says("the first of these (by STEPS' numbers, the first counts most)");
        // The third reads x and y where they come first alone.
        String school = "step p takes 1 loud 0;step y takes 1 loud 2;step x takes 1 loud 1;letter a p;letter b y;letter c x p p;letter d x y;ear e floors 8;ear f floors 9;ear g floors 0;";
        secret(toldBoth(school, 0, 1), 2, 1, 2);
        secret(toldBoth(school, 0, 2), 2, 1, 0, 2);
        secret(toldBoth(school, 0, 3), 2, 1, 0, 0, 2);
        secret(toldBoth(school, 1, 4), 2, 1, 0, 0, 0, 2);
    }

    /** Five quiet steps make 500 walks of five moments; a sixth, which alone is heard, makes one more, the last. */
    private static void secretIsSpent() {
        String five = "step a takes 1 loud 0;step b takes 1 loud 0;step c takes 1 loud 0 left;step d takes 1 loud 0 left;step e takes 1 loud 0 left;";
        String rest = "letter q a;ear e floors 9;ear f floors 8;ear g floors 0;";
        due.says("SPENT, if none of the first 500 has not, and there are more");
        LimpCode x = toldBoth(five + rest, 0, 5);
        due.is("walks", x.doubled(0, 1), 500);
        due.says("0 if none: 500 walks are all looked at");
        secret(x, 2, 0);
        due.says("SPENT: the 501st is not looked at");
        x = toldBoth(five + "step z takes 5 loud 1;" + rest, 0, 5);
        due.is("walks", x.doubled(0, 1), 501);
        secret(x, 2, -2);
        due.says("the 500th is looked at");
        x = toldBoth("step a takes 1 loud 0;step b takes 1 loud 0 left;step c takes 2 loud 0;step d takes 3 loud 0 left;step e takes 8 loud 0;step z takes 9 loud 1;" + rest, 0, 9);
        due.is("walks", x.doubled(0, 1), 500);
        secret(x, 2, 1, 5);
        due.says("SPENT: 501 walks that are all read");
        x = toldBoth("step a takes 1 loud 0;step b takes 1 loud 0;step c takes 3 loud 0;step d takes 5 loud 0 left;step e takes 6 loud 0;" + rest, 0, 8);
        due.is("walks", x.doubled(0, 1), 501);
        secret(x, 2, -2);
        due.says("SPENT: of more walks than are counted");
        x = toldBoth(five + rest, 0, 60);
        due.is("walks", x.doubled(0, 1), 1000000000000000L);
        secret(x, 2, -2);
        secret(x, -1, 1, repeat(0, 60));
    }

    private static void secretIsRefused() {
        due.says("secret: NONE if one can't be (a third one that is one of them, too)");
        refusedSecret(toldBoth(SECRET, 0, 1), 0, 1, 0);
        refusedSecret(toldBoth(SECRET, 0, 1), 0, 1, 1);
        for (int ear : new int[] {-2, 4, 5, MIN, MAX}) {
            LimpCode x = toldBoth(SECRET, 0, 1);
            refusedSecret(x, 0, 1, ear);
            refusedSecret(x, ear, 1, 2);
            refusedSecret(x, 0, ear, 2);
            refusedSecret(x, ear, 1, -1);
        }
        for (int third = -1; third < 4; third++) {
            refusedSecret(toldBoth(SECRET, 0, 1), 0, 0, third);
            refusedSecret(toldBoth(SECRET, 0, 1), -1, 0, third);
            refusedSecret(toldBoth(SECRET, 0, 1), 0, -1, third);
        }
        refusedSecret(told(SECRET, 0, 0), 0, 1, 0);
        Twins.sameButLying(due, "secret changes nothing else", () -> toldBoth(SECRET, 0, 3), x -> {
            x.secret(0, 1, 2);
            x.secret(0, 1, 3);
            x.secret(0, 1, 1);
        });
    }

    // ---- timed

    private static void timedBySet() {
        due.says("TIMED: TEXTS of all LETTERS that take a TIME (0 .. 31)");
        LimpCode x = Due.taught(TIMED);
        due.is("timed(0, 0)", x.timed(0, 0), 1);
        due.is("timed(0, -1)", x.timed(0, -1), 1);
        due.is("timed(1, -1)", x.timed(1, -1), 1);
        due.is("timed(2, -1)", x.timed(2, -1), 2);
        due.is("timed(31, 0)", x.timed(31, 0), 1);
        due.says("TIMED: each STEP of which that is not still begins in a MOMENT of a set (as bits)");
        int[] sets = {0, 1, 2, 3, 4, 5, 6, 7, 8, 11, -1, -2, -3, MIN, MAX};
        int[] want = {1, 2, 2, 4, 1, 2, 2, 4, 1, 4, 4, 2, 2, 1, 4};
        for (int i = 0; i < sets.length; i++) {
            due.is("timed(3, " + sets[i] + ")", x.timed(3, sets[i]), want[i]);
        }
        LimpCode y = Due.taught("step s takes 1 loud 1;letter a s;");
        due.is("all 31 moments", y.timed(31, MAX), 1);
        due.is("all 31 moments but the last", y.timed(31, MAX >> 1), 0);
        due.is("all 31 moments but the first", y.timed(31, MAX - 1), 0);
        due.is("bit 31 alone", y.timed(31, MIN), 0);
        due.is("all 30 moments", y.timed(30, MAX >> 1), 1);
        due.says("TIMED: a TEXT whose WALK is none takes no TIME");
        LimpCode z = Due.taught("step l takes 1 loud 1 left;step r takes 1 loud 1 right;letter a l;letter b r;letter c l l;letter d r l;");
        due.is("one moment", z.timed(1, -1), 1);
        due.is("two moments", z.timed(2, -1), 1);
        due.is("three moments", z.timed(3, -1), 2);
    }

    private static void timedIsRefused() {
        due.says("timed: NONE if the TIME can't be");
        for (int time : new int[] {-1, 32, 33, 60, MIN, MAX}) {
            due.is("timed(" + time + ", -1)", Due.taught(TIMED).timed(time, -1), -1);
        }
        Twins.same(due, "timed changes nothing", () -> {
            LimpCode x = told(TOLD, 0, 0, 1);
            x.dealt();
            return x;
        }, x -> {
            x.timed(5, 7);
            x.timed(0, 0);
            x.timed(32, 0);
        });
    }

    // ---- dealt

    private static void dealt(LimpCode x, int want, int... whose) {
        due.is("dealt()", x.dealt(), want);
        due.lie("dealt()", x, whose);
    }

    private static void deals() {
        due.says("DEALT: LETTERS get one another's rows of STEPS, so that TEXT 0 takes least: what TEXT 0 takes then");
        String school = "step s takes 1 loud 1;step f takes 5 loud 1;letter a f;letter b s;letter c s s s;letter d s;";
        dealt(told(school, 0, 0, 0, 2), 3, 1, 0, 3, 2);
        dealt(told(school, 0, 0), 1, 1, 0, 2, 3);
        dealt(told(school, 0, 0, 1, 2), 5, 1, 2, 3, 0);
        dealt(told(school, 0, 0, 1, 2, 3), 10, 0, 1, 2, 3);
        dealt(told(school, 0, 0, 0, 1, 2, 3), 11, 1, 0, 2, 3);
        due.says("DEALT: TEXT 0, not TEXT 1");
        dealt(tell(told(school, 1, 0, 0, 2), 0, 1), 1, 0, 1, 2, 3);
        due.says("DEALT of no TEXT, of no LETTERS");
        dealt(Due.taught(school), 0, 0, 1, 2, 3);
        dealt(new LimpCode(), 0);
        dealt(Due.taught("step s takes 1 loud 1;ear e floors 0;"), 0);
        dealt(told("step s takes 1 loud 1;letter a s;", 0, 0, 0), 2, 0);
        due.says("DEALT of ten LETTERS and of 60 MOMENTS");
        LimpCode x = Due.taught("step s takes 1 loud 1;step n takes 9 loud 1;letter a n n n n n;letter b n n n n;letter c n n n;letter d n n;letter e n;"
            + "letter f s s s s s;letter g s s s s;letter h s s s;letter i s s;letter j s;");
        dealt(tell(x, 0, 0, 4, 5, 9), 1 + 2 + 3 + 4, 6, 0, 1, 2, 7, 8, 3, 4, 5, 9);
        dealt(tell(Due.taught("step s takes 1 loud 1;step n takes 9 loud 1;letter a n n n n n;letter b n;letter c s s s s s;letter d s;"), 0, 0, 1, 2, 3), 60, 0, 1, 2, 3);
    }

    private static void dealsOfLikeOnes() {
        due.says("DEALT: of like ones the first (by whose row each has, LETTER by LETTER)");
        String like = "step s takes 1 loud 1;step t takes 1 loud 2;letter a s;letter b t;letter c s s;letter d t t;";
        dealt(told(like, 0, 0, 1), 2, 0, 1, 2, 3);
        dealt(told(like, 0, 2), 1, 0, 2, 1, 3);
        dealt(told(like, 0, 3), 1, 0, 2, 3, 1);
        dealt(told(like, 0, 2, 3), 2, 2, 3, 0, 1);
        dealt(told(like, 0, 1, 2), 2, 2, 0, 1, 3);
    }

    private static void dealsWithoutFeet() {
        due.says("DEALT: feet aside");
        String school = "step l takes 1 loud 1 left;step n takes 9 loud 1 still;letter a n;letter b l l;letter c n n;";
        dealt(told(school, 0, 0, 0), 4, 1, 0, 2);
        due.says("DEALT changes no LETTER and no TEXT");
        LimpCode x = told(school, 0, 0, 0);
        x.dealt();
        due.is("tell", x.tell(0, 0), 27);
        due.is("say", x.say(0), 27);
        Twins.sameButLying(due, "dealt changes nothing else", () -> told(TOLD, 0, 0, 1, 4), LimpCode::dealt);
    }
}
